/-! OUR OWN JUDGEMENT. A method is walked over a world 'Wx u' (cells, how many were made, how many slots) that is read off a state u; all else of the machine is hidden in Γ. Ints are written 'iI z', longs 'lI z', z an integer. -/
def iI (z : Int) : Int32 := Int32.ofInt z
def lI (z : Int) : Int64 := Int64.ofInt z
theorem iI_toInt {z : Int} (h : -2147483648 ≤ z ∧ z < 2147483648) : (iI z).toInt = z := by
  unfold iI; rw [Int32.toInt_ofInt]; simp only [Int.bmod_def, Int32.size]; omega
theorem lI_toInt {z : Int} (h : -9223372036854775808 ≤ z ∧ z < 9223372036854775808) : (lI z).toInt = z := by
  unfold lI; rw [Int64.toInt_ofInt]; simp only [Int.bmod_def, Int64.size]; omega
theorem iI_add (a b : Int) : iI a + iI b = iI (a + b) := (Int32.ofInt_add a b).symm
theorem iI_sub (a b : Int) : iI a - iI b = iI (a - b) := (Int32.ofInt_sub a b).symm
theorem iI_mul (a b : Int) : iI a * iI b = iI (a * b) := (Int32.ofInt_mul a b).symm
theorem lI_add (a b : Int) : lI a + lI b = lI (a + b) := (Int64.ofInt_add a b).symm
theorem lI_sub (a b : Int) : lI a - lI b = lI (a - b) := (Int64.ofInt_sub a b).symm
theorem lI_mul (a b : Int) : lI a * lI b = lI (a * b) := (Int64.ofInt_mul a b).symm
theorem iI_lt {a b : Int} (ha : -2147483648 ≤ a ∧ a < 2147483648) (hb : -2147483648 ≤ b ∧ b < 2147483648) : iI a < iI b ↔ a < b := by rw [Int32.lt_iff_toInt_lt, iI_toInt ha, iI_toInt hb]
theorem iI_le {a b : Int} (ha : -2147483648 ≤ a ∧ a < 2147483648) (hb : -2147483648 ≤ b ∧ b < 2147483648) : iI a ≤ iI b ↔ a ≤ b := by rw [Int32.le_iff_toInt_le, iI_toInt ha, iI_toInt hb]
theorem iI_eq {a b : Int} (ha : -2147483648 ≤ a ∧ a < 2147483648) (hb : -2147483648 ≤ b ∧ b < 2147483648) : iI a = iI b ↔ a = b := by rw [← Int32.toInt_inj, iI_toInt ha, iI_toInt hb]
theorem lI_lt {a b : Int} (ha : -9223372036854775808 ≤ a ∧ a < 9223372036854775808) (hb : -9223372036854775808 ≤ b ∧ b < 9223372036854775808) : lI a < lI b ↔ a < b := by rw [Int64.lt_iff_toInt_lt, lI_toInt ha, lI_toInt hb]
theorem lI_le {a b : Int} (ha : -9223372036854775808 ≤ a ∧ a < 9223372036854775808) (hb : -9223372036854775808 ≤ b ∧ b < 9223372036854775808) : lI a ≤ lI b ↔ a ≤ b := by rw [Int64.le_iff_toInt_le, lI_toInt ha, lI_toInt hb]
theorem lI_eq {a b : Int} (ha : -9223372036854775808 ≤ a ∧ a < 9223372036854775808) (hb : -9223372036854775808 ≤ b ∧ b < 9223372036854775808) : lI a = lI b ↔ a = b := by rw [← Int64.toInt_inj, lI_toInt ha, lI_toInt hb]
theorem iI_nat (n : Nat) : iI (n : Int) = nI n := rfl
theorem lI_nat (n : Nat) : lI (n : Int) = lN n := rfl
theorem iI_nat' {z : Int} (h : 0 ≤ z) : iI z = nI z.toNat := by
  conv => lhs; rw [← Int.toNat_of_nonneg h]
  rfl
theorem lI_nat' {z : Int} (h : 0 ≤ z) : lI z = lN z.toNat := by
  conv => lhs; rw [← Int.toNat_of_nonneg h]
  rfl
theorem iI_clamp {z : Int} (h0 : 0 ≤ z) (h1 : z < 2147483648) : (iI z).toNatClampNeg = z.toNat := by
  rw [iI_nat' h0]; exact nI_clamp (by omega)
theorem iI_in {z : Int} {n : Nat} (h0 : 0 ≤ z ∧ z < n) (hn : n < 2147483648) : vp_in (iI z) n := by
  rw [vp_in_iff, iI_toInt (by omega)]; omega
theorem iI_div {a b : Int} (ha : 0 ≤ a ∧ a < 2147483648) (hb : 0 < b ∧ b < 2147483648) : iI a / iI b = iI (a / b) := by
  rw [iI_nat' ha.1, iI_nat' (Int.le_of_lt hb.1), pk_div (by omega) (by omega) (by omega)]
  rw [← iI_nat, Int.natCast_ediv, Int.toNat_of_nonneg ha.1, Int.toNat_of_nonneg (Int.le_of_lt hb.1)]
theorem iI_rem {a b : Int} (ha : 0 ≤ a ∧ a < 2147483648) (hb : 0 < b ∧ b < 2147483648) : iI a - iI a / iI b * iI b = iI (a % b) := by
  rw [iI_div ha hb, iI_mul, iI_sub, Int.emod_def, Int.mul_comm b]
theorem lI_div {a b : Int} (ha : 0 ≤ a ∧ a < 9223372036854775808) (hb : 0 < b ∧ b < 9223372036854775808) : lI a / lI b = lI (a / b) := by
  rw [lI_nat' ha.1, lI_nat' (Int.le_of_lt hb.1), pk_lDiv (by omega) (by omega) (by omega)]
  rw [← lI_nat, Int.natCast_ediv, Int.toNat_of_nonneg ha.1, Int.toNat_of_nonneg (Int.le_of_lt hb.1)]
theorem iI_l {z : Int} (h : -2147483648 ≤ z ∧ z < 2147483648) : (iI z).toInt64 = lI z := by
  rw [← Int64.toInt_inj, Int32.toInt_toInt64, iI_toInt h, lI_toInt (by omega)]
theorem lI_i (z : Int) : (lI z).toInt32 = iI z := Int64.toInt32_ofInt
theorem iI_ne0 {b : Int} (hb : 0 < b ∧ b < 2147483648) : ¬ iI b = 0 := by
  intro h
  rw [show (0 : Int32) = iI 0 from rfl, iI_eq (by omega) (by omega)] at h
  omega
theorem lI_ne0 {b : Int} (hb : 0 < b ∧ b < 9223372036854775808) : ¬ lI b = 0 := by
  intro h
  rw [show (0 : Int64) = lI 0 from rfl, lI_eq (by omega) (by omega)] at h
  omega

/-- the array classes that the worlds use, by their places -/
abbrev tys (κ : Nat → ClassId) : List (ClassId × FieldType) := [(κ 0, .int), (κ 1, .boolean), (κ 2, .object "Canticle$Tally"), (κ 3, .array .int)]
/-- POWERS -/
def pw (j : Nat) : Int := [1, 14, 196, 2744, 38416].getD j 0
/-- what the tables say beside the words -/
def Wn (U : State) : Prop :=
  va_Nw (.fieldLinkNest "Canticle$Reckoner" 48 "Canticle" "POWERS" "[I" "Canticle") U ∧ va_Nw (.fieldLinkNest "Canticle$Ledger" 48 "Canticle" "POWERS" "[I" "Canticle") U ∧ va_Nw (.fieldLinkNest "Canticle$Search" 67 "Canticle" "POWERS" "[I" "Canticle") U ∧
  va_Nw (.methodLinkNest RX5 36 yX2_init "Canticle") U ∧ va_Nw (.methodLinkNest RX0 27 yX4_init "Canticle") U ∧ va_Nw (.methodLinkNest RX3 81 yX5_cost "Canticle") U ∧ va_AO "Canticle$Tally" U ∧ va_AOA .int U
theorem Wn.warm {s U : State} (hW : s.WarmedH U.vm) (h : Wn s) : Wn U := by
  obtain ⟨h1, h2, h3, h4, h5, h6, h7, h8⟩ := h
  exact ⟨h1.warmF hW, h2.warmF hW, h3.warmF hW, h4.warmM hW, h5.warmM hW, h6.warmM hW, va_AO.moved hW.alike h7, va_AOA.moved hW.alike h8⟩
/-- POWERS's address; the script's, its length, its ints -/
abbrev EE : Type := Nat × Nat × Nat × (Nat → Int32)
/-- what a start holds beside its world: outside A -/
def Ev (ε : EE) (A : Nat → Prop) (U : State) (H : Heap) : Prop :=
  (va_Z "Canticle" "POWERS" "[I" (.ref ε.1) A U H ∧ va_T .int ε.2.1 ε.2.2.1 (fun j => .int (ε.2.2.2 j)) A U H) ∧ va_T .int ε.1 5 (fun j => .int (iI (pw j))) A U H ∧ Wn U
theorem Ev.warm {ε : EE} {A : Nat → Prop} {s U : State} {H : Heap} (hW : s.WarmedH U.vm) (h : Ev ε A s H) : Ev ε A U H := ⟨⟨va_Z.moved hW.alike h.1.1, va_T.moved hW.alike h.1.2⟩, va_T.moved hW.alike h.2.1, h.2.2.warm hW⟩
theorem Ev.kept {ε : EE} {A : Nat → Prop} {U : State} {H H1 : Heap} (h : Ev ε A U H) (hq : ∀ a : Nat, a < H.size → ¬ A a → H1[a]? = H[a]?) : Ev ε A U H1 := ⟨⟨va_Z.kept h.1.1 hq, va_T.kept h.1.2 hq⟩, va_T.kept h.2.1 hq, h.2.2⟩
theorem Ev.narrow {ε : EE} {A B : Nat → Prop} {U : State} {H : Heap} (h : Ev ε A U H) (hAB : ∀ q, B q → A q) : Ev ε B U H := ⟨⟨va_Z.narrow h.1.1 hAB, va_T.narrow h.1.2 hAB⟩, va_T.narrow h.2.1 hAB, h.2.2⟩
/-- a method's start -/
def PreW (D : va_G) (κ : Nat → Nat) (ε : EE) (ws : va_W) (sz : Nat) (U : State) : Prop :=
  U.heap.size = sz ∧ va_P D vwCl ws U.heap ∧ va_K D vwCl (tys κ) U ∧ va_D (fun _ => True) ws ∧ Ev ε (va_A ws sz) U U.heap
theorem preW_blind {D : va_G} {κ : Nat → Nat} {ε : EE} {ws : va_W} {sz : Nat} {av : List Value} : FrameBlind (va_Pc av (PreW D κ ε ws sz)) := fun a U g mk q => by
  obtain ⟨q0, q1, qP, qK, qD, qE⟩ := q
  exact ⟨q0, q1, qP, va_K.moved (u := U) (U := U.calling g mk a) (Vm.Alike.refl U.vm) qK, qD, Ev.warm (s := U) (U := U.calling g mk a) (State.WarmedH.refl U) qE⟩
/-- a method's end: its world -/
def BW (D : va_G) (κ : Nat → Nat) (A : Nat → Prop) (ws : va_W) (t : State) : Prop := va_P D vwCl ws t.heap ∧ va_K D vwCl (tys κ) t ∧ va_D A ws
def QW {S : Type} (Wx : S → va_W × Nat × Nat) (D : va_G) (κ : Nat → Nat) (A : Nat → Prop) (post : Option Value → S → Prop) : Array Value → State → Outcome → State → Prop := fun _ st oc t => (∃ (v : Option Value) (u : S), oc = .returned v ∧ post v u ∧ BW D κ A (Wx u).1 t) ∧ va_F A st t
/-- A CONTRACT: y, called with av over the world of u, returns v over the world of u' with 'post v u'' -/
def Ct {S : Type} (Wx : S → va_W × Nat × Nat) (l : Launch) (D : va_G) (κ : Nat → Nat) (ε : EE) (y : MethodName) (cc : ByteArray) (mL : Nat) (ret : Option FieldType) (fr lo mc ms : Nat) (u : S) (av : List Value) (post : Option Value → S → Prop) : Prop :=
  ∀ sz : Nat, Met l y (Cond.code y cc mL ret :: Wall) { frames := fr, cells := mc, slots := ms, locals := lo } (va_Pc av (PreW D κ ε (Wx u).1 sz)) (QW Wx D κ (va_A (Wx u).1 sz) post) mc ms (va_A (Wx u).1 sz)
/-- the walk, all of the machine hidden -/
def Gm {S : Type} (Wx : S → va_W × Nat × Nat) (p : Program) (l : Launch) (e : Env) (R : Room) (s : State) (m : MethodId) (args : Array Value) (below : List Frame) (meth : Method) (c : Code) (D : va_G) (A : Nat → Prop) (Q : State → Prop) : S → Nat → Array Slot → List Value → Prop :=
  fun u pc ls st => ∀ (H : Heap) (locs : List Loc), va_P D vwCl (Wx u).1 H → va_D A (Wx u).1 → va_S A s.heap H locs → W p l e R s m args below meth c H locs (Wx u).2.1 (Wx u).2.2 Q (F0 m pc ls st)
def retOk (cc : ByteArray) (pc : Nat) (ret : Option FieldType) (v : Option Value) : Prop :=
  (v = none ∧ ret = none ∧ decode cc pc = .ok (.return_, 1)) ∨ (∃ (x : Int32) (ty : FieldType), v = some (.int x) ∧ ret = some ty ∧ narrow ty (.int x) = .int x ∧ decode cc pc = .ok (.ireturn, 1)) ∨
  (∃ x : Int64, v = some (.long x) ∧ ret = some .long ∧ decode cc pc = .ok (.lreturn, 1)) ∨ (∃ x : UInt64, v = some (.double x) ∧ ret = some .double ∧ decode cc pc = .ok (.dreturn, 1)) ∨
  (∃ (x : Nat) (rt : FieldType), v = some (.ref x) ∧ ret = some rt ∧ ((∃ n, rt = .object n) ∨ ∃ t, rt = .array t) ∧ decode cc pc = .ok (.areturn, 1))
def Cx {S : Type} (Wx : S → va_W × Nat × Nat) (l : Launch) (D : va_G) (κ : Nat → Nat) (ε : EE) (own : String) (cc : ByteArray) (mL : Nat) (ret : Option FieldType) (R : Room) (post : Option Value → S → Prop) (Γ : S → Nat → Array Slot → List Value → Prop) : Prop :=
  ∃ (p : Program) (e : Jvm.Env) (s : State) (m : MethodId) (args : Array Value) (below : List Frame) (meth : Method) (c : Code) (A : Nat → Prop) (Q : State → Prop),
    Γ = Gm Wx p l e R s m args below meth c D A Q ∧ p.tables.exec = Jvm.exec ∧ c.code = cc ∧ c.maxLocals = mL ∧ s.vm.findClass own = some m.cls ∧ (∀ w ∈ Wall, w.before args s = true) ∧ va_K D vwCl (tys κ) s ∧ Ev ε A s s.heap ∧ (∀ q, s.heap.size ≤ q → A q) ∧
    (∀ (u : S) (pc : Nat) (ls : Array Slot) (v : Option Value) (H : Heap) (locs : List Loc), retOk cc pc ret v → post v u → (Wx u).2.1 ≤ R.cells → (Wx u).2.2 ≤ R.slots → va_P D vwCl (Wx u).1 H → va_D A (Wx u).1 → va_S A s.heap H locs → W p l e R s m args below meth c H locs (Wx u).2.1 (Wx u).2.2 Q (F0 m pc ls v.toList))
/-- THE JUDGEMENT: over u, at pc, with the locals L and the stack st, the walk comes to its end -/
def WW {S : Type} (Γ : S → Nat → Array Slot → List Value → Prop) (mL : Nat) (u : S) (pc : Nat) (L : List (Nat × Value)) (st : List Value) : Prop := ∀ ls : Array Slot, lv_has ls mL L → Γ u pc ls st
theorem lv_look {ls : Array Slot} {nL : Nat} {L : List (Nat × Value)} {i : Nat} {v : Value} (h : lv_has ls nL L) (hv : L.lookup i = some v) : ls[i]? = some (.val v) := by
  refine h.2.2 (i, v) ?_
  clear h
  induction L with
  | nil => cases hv
  | cons q L ih =>
    obtain ⟨j, w⟩ := q
    rw [List.lookup_cons] at hv
    by_cases e : i = j
    · subst e
      simp at hv
      subst hv
      exact List.mem_cons_self
    · rw [beq_false_of_ne e] at hv
      exact List.mem_cons_of_mem _ (ih hv)
/-- a store of one slot, of two -/
def ls1 (L : List (Nat × Value)) (i : Nat) (v : Value) : List (Nat × Value) := (i, v) :: L.filter (fun q => !(q.1 == i) && !(q.1 + 1 == i && q.2.category == 2))
def ls2 (L : List (Nat × Value)) (i : Nat) (v : Value) : List (Nat × Value) := (i, v) :: L.filter (fun q => !(q.1 == i) && (!(q.1 == i + 1) && !(q.1 + 1 == i && q.2.category == 2)))
section ROWS
variable {S : Type} {Wx : S → va_W × Nat × Nat} {l : Launch} {D : va_G} {κ : Nat → Nat} {ε : EE} {own : String} {cc : ByteArray} {mL : Nat} {ret : Option FieldType} {R : Room} {post : Option Value → S → Prop} {Γ : S → Nat → Array Slot → List Value → Prop} {u : S} {pc : Nat} {L : List (Nat × Value)} {st : List Value}
theorem WW.sub {L' : List (Nat × Value)} (hL : L'.map (fun q => L.lookup q.1) = L'.map (fun q => some q.2)) (k : WW Γ mL u pc L' st) : WW Γ mL u pc L st := by
  intro ls hl
  refine k ls ⟨hl.1, hl.2.1, fun q hq => ?_⟩
  refine lv_look hl ?_
  obtain ⟨j, hj⟩ := List.getElem?_of_mem hq
  have h1 : (L'.map (fun q => L.lookup q.1))[j]? = (L'.map (fun q => some q.2))[j]? := by rw [hL]
  rw [List.getElem?_map, List.getElem?_map, hj] at h1
  exact Option.some.inj h1
theorem WW.eqs {st' : List Value} (h : st = st') (k : WW Γ mL u pc L st') : WW Γ mL u pc L st := h ▸ k
theorem WW.equ {u' : S} (h : u = u') (k : WW Γ mL u' pc L st) : WW Γ mL u pc L st := h ▸ k

theorem w_iconst (h : Cx Wx l D κ ε own cc mL ret R post Γ) {n : Int} (d : decode cc pc = .ok (.iconst n, 1))  (k : WW Γ mL u (pc + 1) L (.int (iI n) :: st)) : WW Γ mL u pc L (st) := by
  obtain ⟨p, e, s, m, args, below, meth, c, A, Q, rfl, hx, hb, hml, hown, hts, hK, hE, hA, hfin⟩ := h
  intro ls hl H locs hP hD hS
  exact lv_iconst hx hb d rfl (k ls hl H locs hP hD hS)

theorem w_bipush (h : Cx Wx l D κ ε own cc mL ret R post Γ) {n : Int} (d : decode cc pc = .ok (.bipush n, 2)) (hn : (Int8.ofInt n).toInt32 = iI n) (k : WW Γ mL u (pc + 2) L (.int (iI n) :: st)) : WW Γ mL u pc L (st) := by
  obtain ⟨p, e, s, m, args, below, meth, c, A, Q, rfl, hx, hb, hml, hown, hts, hK, hE, hA, hfin⟩ := h
  intro ls hl H locs hP hD hS
  exact lv_bipush hx hb d hn (k ls hl H locs hP hD hS)

theorem w_sipush (h : Cx Wx l D κ ε own cc mL ret R post Γ) {n : Int} (d : decode cc pc = .ok (.sipush n, 3)) (hn : (Int16.ofInt n).toInt32 = iI n) (k : WW Γ mL u (pc + 3) L (.int (iI n) :: st)) : WW Γ mL u pc L (st) := by
  obtain ⟨p, e, s, m, args, below, meth, c, A, Q, rfl, hx, hb, hml, hown, hts, hK, hE, hA, hfin⟩ := h
  intro ls hl H locs hP hD hS
  exact lv_sipush hx hb d hn (k ls hl H locs hP hD hS)

theorem w_ldc (h : Cx Wx l D κ ε own cc mL ret R post Γ) {ix : Nat} {v : Int32} {z : Int} (d : decode cc pc = .ok (.ldc ix, 2)) (hw : Cond.constant own ix v ∈ Wall) (hz : v = iI z) (k : WW Γ mL u (pc + 2) L (.int (iI z) :: st)) : WW Γ mL u pc L (st) := by
  obtain ⟨p, e, s, m, args, below, meth, c, A, Q, rfl, hx, hb, hml, hown, hts, hK, hE, hA, hfin⟩ := h
  intro ls hl H locs hP hD hS
  subst hz
  exact lv_ldc hx hb hown (hts _ hw) d (k ls hl H locs hP hD hS)

theorem w_ldcw (h : Cx Wx l D κ ε own cc mL ret R post Γ) {ix : Nat} {v : Int32} {z : Int} (d : decode cc pc = .ok (.ldc_w ix, 3)) (hw : Cond.constant own ix v ∈ Wall) (hz : v = iI z) (k : WW Γ mL u (pc + 3) L (.int (iI z) :: st)) : WW Γ mL u pc L (st) := by
  obtain ⟨p, e, s, m, args, below, meth, c, A, Q, rfl, hx, hb, hml, hown, hts, hK, hE, hA, hfin⟩ := h
  intro ls hl H locs hP hD hS
  subst hz
  exact lv_ldcw hx hb hown (hts _ hw) d (k ls hl H locs hP hD hS)

theorem w_ldc2 (h : Cx Wx l D κ ε own cc mL ret R post Γ) {ix : Nat} {v : Int64} {z : Int} (d : decode cc pc = .ok (.ldc2_w ix, 3)) (hw : Cond.constantLong own ix v ∈ Wall) (hz : v = lI z) (k : WW Γ mL u (pc + 3) L (.long (lI z) :: st)) : WW Γ mL u pc L (st) := by
  obtain ⟨p, e, s, m, args, below, meth, c, A, Q, rfl, hx, hb, hml, hown, hts, hK, hE, hA, hfin⟩ := h
  intro ls hl H locs hP hD hS
  subst hz
  exact lv_ldc2 hx hb hown (hts _ hw) d (k ls hl H locs hP hD hS)

theorem w_lconst (h : Cx Wx l D κ ε own cc mL ret R post Γ) {n : Fin 2} {z : Int} (d : decode cc pc = .ok (.lconst n, 1)) (hz : Int64.ofNat (n : Nat) = lI z) (k : WW Γ mL u (pc + 1) L (.long (lI z) :: st)) : WW Γ mL u pc L (st) := by
  obtain ⟨p, e, s, m, args, below, meth, c, A, Q, rfl, hx, hb, hml, hown, hts, hK, hE, hA, hfin⟩ := h
  intro ls hl H locs hP hD hS
  exact lv_lconst hx hb d hz (k ls hl H locs hP hD hS)

theorem w_iload_n (h : Cx Wx l D κ ε own cc mL ret R post Γ) {j : Fin 4} {x : Int32} (d : decode cc pc = .ok (.iload_n j, 1)) (hv : L.lookup (j : Nat) = some (.int x)) (k : WW Γ mL u (pc + 1) L (.int x :: st)) : WW Γ mL u pc L (st) := by
  obtain ⟨p, e, s, m, args, below, meth, c, A, Q, rfl, hx, hb, hml, hown, hts, hK, hE, hA, hfin⟩ := h
  intro ls hl H locs hP hD hS
  exact lv_iload_n hx hb d rfl (lv_look hl hv) (k ls hl H locs hP hD hS)

theorem w_iload (h : Cx Wx l D κ ε own cc mL ret R post Γ) {j : Nat} {x : Int32} (d : decode cc pc = .ok (.iload j, 2)) (hv : L.lookup j = some (.int x)) (k : WW Γ mL u (pc + 2) L (.int x :: st)) : WW Γ mL u pc L (st) := by
  obtain ⟨p, e, s, m, args, below, meth, c, A, Q, rfl, hx, hb, hml, hown, hts, hK, hE, hA, hfin⟩ := h
  intro ls hl H locs hP hD hS
  exact lv_iload hx hb d (lv_look hl hv) (k ls hl H locs hP hD hS)

theorem w_istore_n (h : Cx Wx l D κ ε own cc mL ret R post Γ) {j : Fin 4} {x : Int32} (d : decode cc pc = .ok (.istore_n j, 1)) (hj : (j : Nat) < mL) (k : WW Γ mL u (pc + 1) (ls1 L (j : Nat) (.int x)) (st)) : WW Γ mL u pc L (.int x :: st) := by
  obtain ⟨p, e, s, m, args, below, meth, c, A, Q, rfl, hx, hb, hml, hown, hts, hK, hE, hA, hfin⟩ := h
  intro ls hl H locs hP hD hS
  exact lv_istore_n hx hb d rfl hl hj rfl (fun ls hl => k ls hl H locs hP hD hS)

theorem w_istore (h : Cx Wx l D κ ε own cc mL ret R post Γ) {j : Nat} {x : Int32} (d : decode cc pc = .ok (.istore j, 2)) (hj : j < mL) (k : WW Γ mL u (pc + 2) (ls1 L j (.int x)) (st)) : WW Γ mL u pc L (.int x :: st) := by
  obtain ⟨p, e, s, m, args, below, meth, c, A, Q, rfl, hx, hb, hml, hown, hts, hK, hE, hA, hfin⟩ := h
  intro ls hl H locs hP hD hS
  exact lv_istore hx hb d hl hj rfl (fun ls hl => k ls hl H locs hP hD hS)

theorem w_lload_n (h : Cx Wx l D κ ε own cc mL ret R post Γ) {j : Fin 4} {x : Int64} (d : decode cc pc = .ok (.lload_n j, 1)) (hv : L.lookup (j : Nat) = some (.long x)) (k : WW Γ mL u (pc + 1) L (.long x :: st)) : WW Γ mL u pc L (st) := by
  obtain ⟨p, e, s, m, args, below, meth, c, A, Q, rfl, hx, hb, hml, hown, hts, hK, hE, hA, hfin⟩ := h
  intro ls hl H locs hP hD hS
  exact lv_lload_n hx hb d rfl (lv_look hl hv) (k ls hl H locs hP hD hS)

theorem w_lload (h : Cx Wx l D κ ε own cc mL ret R post Γ) {j : Nat} {x : Int64} (d : decode cc pc = .ok (.lload j, 2)) (hv : L.lookup j = some (.long x)) (k : WW Γ mL u (pc + 2) L (.long x :: st)) : WW Γ mL u pc L (st) := by
  obtain ⟨p, e, s, m, args, below, meth, c, A, Q, rfl, hx, hb, hml, hown, hts, hK, hE, hA, hfin⟩ := h
  intro ls hl H locs hP hD hS
  exact lv_lload hx hb d (lv_look hl hv) (k ls hl H locs hP hD hS)

theorem w_lstore_n (h : Cx Wx l D κ ε own cc mL ret R post Γ) {j : Fin 4} {x : Int64} (d : decode cc pc = .ok (.lstore_n j, 1)) (hj : (j : Nat) + 1 < mL) (k : WW Γ mL u (pc + 1) (ls2 L (j : Nat) (.long x)) (st)) : WW Γ mL u pc L (.long x :: st) := by
  obtain ⟨p, e, s, m, args, below, meth, c, A, Q, rfl, hx, hb, hml, hown, hts, hK, hE, hA, hfin⟩ := h
  intro ls hl H locs hP hD hS
  exact lv_lstore_n hx hb d rfl hl hj rfl (fun ls hl => k ls hl H locs hP hD hS)

theorem w_lstore (h : Cx Wx l D κ ε own cc mL ret R post Γ) {j : Nat} {x : Int64} (d : decode cc pc = .ok (.lstore j, 2)) (hj : j + 1 < mL) (k : WW Γ mL u (pc + 2) (ls2 L j (.long x)) (st)) : WW Γ mL u pc L (.long x :: st) := by
  obtain ⟨p, e, s, m, args, below, meth, c, A, Q, rfl, hx, hb, hml, hown, hts, hK, hE, hA, hfin⟩ := h
  intro ls hl H locs hP hD hS
  exact lv_lstore hx hb d hl hj rfl (fun ls hl => k ls hl H locs hP hD hS)

theorem w_aload_n (h : Cx Wx l D κ ε own cc mL ret R post Γ) {j : Fin 4} {x : Nat} (d : decode cc pc = .ok (.aload_n j, 1)) (hv : L.lookup (j : Nat) = some (.ref x)) (k : WW Γ mL u (pc + 1) L (.ref x :: st)) : WW Γ mL u pc L (st) := by
  obtain ⟨p, e, s, m, args, below, meth, c, A, Q, rfl, hx, hb, hml, hown, hts, hK, hE, hA, hfin⟩ := h
  intro ls hl H locs hP hD hS
  exact lv_aload_n hx hb d rfl (lv_look hl hv) (k ls hl H locs hP hD hS)

theorem w_aload (h : Cx Wx l D κ ε own cc mL ret R post Γ) {j : Nat} {x : Nat} (d : decode cc pc = .ok (.aload j, 2)) (hv : L.lookup j = some (.ref x)) (k : WW Γ mL u (pc + 2) L (.ref x :: st)) : WW Γ mL u pc L (st) := by
  obtain ⟨p, e, s, m, args, below, meth, c, A, Q, rfl, hx, hb, hml, hown, hts, hK, hE, hA, hfin⟩ := h
  intro ls hl H locs hP hD hS
  exact lv_aload hx hb d (lv_look hl hv) (k ls hl H locs hP hD hS)

theorem w_astore_n (h : Cx Wx l D κ ε own cc mL ret R post Γ) {j : Fin 4} {x : Nat} (d : decode cc pc = .ok (.astore_n j, 1)) (hj : (j : Nat) < mL) (k : WW Γ mL u (pc + 1) (ls1 L (j : Nat) (.ref x)) (st)) : WW Γ mL u pc L (.ref x :: st) := by
  obtain ⟨p, e, s, m, args, below, meth, c, A, Q, rfl, hx, hb, hml, hown, hts, hK, hE, hA, hfin⟩ := h
  intro ls hl H locs hP hD hS
  exact lv_astore_n hx hb d rfl hl hj rfl (fun ls hl => k ls hl H locs hP hD hS)

theorem w_astore (h : Cx Wx l D κ ε own cc mL ret R post Γ) {j : Nat} {x : Nat} (d : decode cc pc = .ok (.astore j, 2)) (hj : j < mL) (k : WW Γ mL u (pc + 2) (ls1 L j (.ref x)) (st)) : WW Γ mL u pc L (.ref x :: st) := by
  obtain ⟨p, e, s, m, args, below, meth, c, A, Q, rfl, hx, hb, hml, hown, hts, hK, hE, hA, hfin⟩ := h
  intro ls hl H locs hP hD hS
  exact lv_astore hx hb d hl hj rfl (fun ls hl => k ls hl H locs hP hD hS)

theorem w_dload_n (h : Cx Wx l D κ ε own cc mL ret R post Γ) {j : Fin 4} {x : UInt64} (d : decode cc pc = .ok (.dload_n j, 1)) (hv : L.lookup (j : Nat) = some (.double x)) (k : WW Γ mL u (pc + 1) L (.double x :: st)) : WW Γ mL u pc L (st) := by
  obtain ⟨p, e, s, m, args, below, meth, c, A, Q, rfl, hx, hb, hml, hown, hts, hK, hE, hA, hfin⟩ := h
  intro ls hl H locs hP hD hS
  exact lv_dload_n hx hb d rfl (lv_look hl hv) (k ls hl H locs hP hD hS)

theorem w_dload (h : Cx Wx l D κ ε own cc mL ret R post Γ) {j : Nat} {x : UInt64} (d : decode cc pc = .ok (.dload j, 2)) (hv : L.lookup j = some (.double x)) (k : WW Γ mL u (pc + 2) L (.double x :: st)) : WW Γ mL u pc L (st) := by
  obtain ⟨p, e, s, m, args, below, meth, c, A, Q, rfl, hx, hb, hml, hown, hts, hK, hE, hA, hfin⟩ := h
  intro ls hl H locs hP hD hS
  exact lv_dload hx hb d (lv_look hl hv) (k ls hl H locs hP hD hS)

theorem w_dstore_n (h : Cx Wx l D κ ε own cc mL ret R post Γ) {j : Fin 4} {x : UInt64} (d : decode cc pc = .ok (.dstore_n j, 1)) (hj : (j : Nat) + 1 < mL) (k : WW Γ mL u (pc + 1) (ls2 L (j : Nat) (.double x)) (st)) : WW Γ mL u pc L (.double x :: st) := by
  obtain ⟨p, e, s, m, args, below, meth, c, A, Q, rfl, hx, hb, hml, hown, hts, hK, hE, hA, hfin⟩ := h
  intro ls hl H locs hP hD hS
  exact lv_dstore_n hx hb d rfl hl hj rfl (fun ls hl => k ls hl H locs hP hD hS)

theorem w_dstore (h : Cx Wx l D κ ε own cc mL ret R post Γ) {j : Nat} {x : UInt64} (d : decode cc pc = .ok (.dstore j, 2)) (hj : j + 1 < mL) (k : WW Γ mL u (pc + 2) (ls2 L j (.double x)) (st)) : WW Γ mL u pc L (.double x :: st) := by
  obtain ⟨p, e, s, m, args, below, meth, c, A, Q, rfl, hx, hb, hml, hown, hts, hK, hE, hA, hfin⟩ := h
  intro ls hl H locs hP hD hS
  exact lv_dstore hx hb d hl hj rfl (fun ls hl => k ls hl H locs hP hD hS)

theorem w_iinc (h : Cx Wx l D κ ε own cc mL ret R post Γ) {j : Nat} {n x : Int} (d : decode cc pc = .ok (.iinc j n, 3)) (hv : L.lookup j = some (.int (iI x))) (hj : j < mL) (k : WW Γ mL u (pc + 3) (ls1 L j (.int (iI (x + n)))) st) : WW Γ mL u pc L st := by
  obtain ⟨p, e, s, m, args, below, meth, c, A, Q, rfl, hx, hb, hml, hown, hts, hK, hE, hA, hfin⟩ := h
  intro ls hl H locs hP hD hS
  have hm : (j, Value.int (iI x)) ∈ L := by
    clear k hl hj d
    induction L with
    | nil => cases hv
    | cons q L ih =>
      obtain ⟨i, w⟩ := q
      rw [List.lookup_cons] at hv
      by_cases e : j = i
      · subst e
        simp at hv
        subst hv
        exact List.mem_cons_self
      · rw [beq_false_of_ne e] at hv
        exact List.mem_cons_of_mem _ (ih hv)
  obtain ⟨q, hq⟩ := List.getElem?_of_mem hm
  exact lv_iinc (k := q) hx hb d hl hq (iI_add x n) hj rfl (fun ls hl => k ls hl H locs hP hD hS)

theorem w_iadd (h : Cx Wx l D κ ε own cc mL ret R post Γ) {x y : Int} (d : decode cc pc = .ok (.iadd, 1))  (k : WW Γ mL u (pc + 1) L (.int (iI (x + y)) :: st)) : WW Γ mL u pc L (.int (iI y) :: .int (iI x) :: st) := by
  obtain ⟨p, e, s, m, args, below, meth, c, A, Q, rfl, hx, hb, hml, hown, hts, hK, hE, hA, hfin⟩ := h
  intro ls hl H locs hP hD hS
  refine lv_iadd hx hb d ?_
  rw [iI_add]
  exact k ls hl H locs hP hD hS

theorem w_isub (h : Cx Wx l D κ ε own cc mL ret R post Γ) {x y : Int} (d : decode cc pc = .ok (.isub, 1))  (k : WW Γ mL u (pc + 1) L (.int (iI (x - y)) :: st)) : WW Γ mL u pc L (.int (iI y) :: .int (iI x) :: st) := by
  obtain ⟨p, e, s, m, args, below, meth, c, A, Q, rfl, hx, hb, hml, hown, hts, hK, hE, hA, hfin⟩ := h
  intro ls hl H locs hP hD hS
  refine lv_isub hx hb d ?_
  rw [iI_sub]
  exact k ls hl H locs hP hD hS

theorem w_imul (h : Cx Wx l D κ ε own cc mL ret R post Γ) {x y : Int} (d : decode cc pc = .ok (.imul, 1))  (k : WW Γ mL u (pc + 1) L (.int (iI (x * y)) :: st)) : WW Γ mL u pc L (.int (iI y) :: .int (iI x) :: st) := by
  obtain ⟨p, e, s, m, args, below, meth, c, A, Q, rfl, hx, hb, hml, hown, hts, hK, hE, hA, hfin⟩ := h
  intro ls hl H locs hP hD hS
  refine lv_imul hx hb d ?_
  rw [iI_mul]
  exact k ls hl H locs hP hD hS

theorem w_ladd (h : Cx Wx l D κ ε own cc mL ret R post Γ) {x y : Int} (d : decode cc pc = .ok (.ladd, 1))  (k : WW Γ mL u (pc + 1) L (.long (lI (x + y)) :: st)) : WW Γ mL u pc L (.long (lI y) :: .long (lI x) :: st) := by
  obtain ⟨p, e, s, m, args, below, meth, c, A, Q, rfl, hx, hb, hml, hown, hts, hK, hE, hA, hfin⟩ := h
  intro ls hl H locs hP hD hS
  refine lv_ladd hx hb d ?_
  rw [lI_add]
  exact k ls hl H locs hP hD hS

theorem w_lsub (h : Cx Wx l D κ ε own cc mL ret R post Γ) {x y : Int} (d : decode cc pc = .ok (.lsub, 1))  (k : WW Γ mL u (pc + 1) L (.long (lI (x - y)) :: st)) : WW Γ mL u pc L (.long (lI y) :: .long (lI x) :: st) := by
  obtain ⟨p, e, s, m, args, below, meth, c, A, Q, rfl, hx, hb, hml, hown, hts, hK, hE, hA, hfin⟩ := h
  intro ls hl H locs hP hD hS
  refine lv_lsub hx hb d ?_
  rw [lI_sub]
  exact k ls hl H locs hP hD hS

theorem w_lmul (h : Cx Wx l D κ ε own cc mL ret R post Γ) {x y : Int} (d : decode cc pc = .ok (.lmul, 1))  (k : WW Γ mL u (pc + 1) L (.long (lI (x * y)) :: st)) : WW Γ mL u pc L (.long (lI y) :: .long (lI x) :: st) := by
  obtain ⟨p, e, s, m, args, below, meth, c, A, Q, rfl, hx, hb, hml, hown, hts, hK, hE, hA, hfin⟩ := h
  intro ls hl H locs hP hD hS
  refine lv_lmul hx hb d ?_
  rw [lI_mul]
  exact k ls hl H locs hP hD hS

theorem w_idiv (h : Cx Wx l D κ ε own cc mL ret R post Γ) {x y : Int} (d : decode cc pc = .ok (.idiv, 1)) (hx0 : 0 ≤ x ∧ x < 2147483648) (hy : 0 < y ∧ y < 2147483648) (k : WW Γ mL u (pc + 1) L (.int (iI (x / y)) :: st)) : WW Γ mL u pc L (.int (iI y) :: .int (iI x) :: st) := by
  obtain ⟨p, e, s, m, args, below, meth, c, A, Q, rfl, hx, hb, hml, hown, hts, hK, hE, hA, hfin⟩ := h
  intro ls hl H locs hP hD hS
  refine lv_idiv hx hb d (iI_ne0 hy) ?_
  rw [iI_div hx0 hy]
  exact k ls hl H locs hP hD hS

theorem w_irem (h : Cx Wx l D κ ε own cc mL ret R post Γ) {x y : Int} (d : decode cc pc = .ok (.irem, 1)) (hx0 : 0 ≤ x ∧ x < 2147483648) (hy : 0 < y ∧ y < 2147483648) (k : WW Γ mL u (pc + 1) L (.int (iI (x % y)) :: st)) : WW Γ mL u pc L (.int (iI y) :: .int (iI x) :: st) := by
  obtain ⟨p, e, s, m, args, below, meth, c, A, Q, rfl, hx, hb, hml, hown, hts, hK, hE, hA, hfin⟩ := h
  intro ls hl H locs hP hD hS
  refine lv_irem hx hb d (iI_ne0 hy) ?_
  rw [iI_rem hx0 hy]
  exact k ls hl H locs hP hD hS

theorem w_ldiv (h : Cx Wx l D κ ε own cc mL ret R post Γ) {x y : Int} (d : decode cc pc = .ok (.ldiv, 1)) (hx0 : 0 ≤ x ∧ x < 9223372036854775808) (hy : 0 < y ∧ y < 9223372036854775808) (k : WW Γ mL u (pc + 1) L (.long (lI (x / y)) :: st)) : WW Γ mL u pc L (.long (lI y) :: .long (lI x) :: st) := by
  obtain ⟨p, e, s, m, args, below, meth, c, A, Q, rfl, hx, hb, hml, hown, hts, hK, hE, hA, hfin⟩ := h
  intro ls hl H locs hP hD hS
  refine lv_ldiv hx hb d (lI_ne0 hy) ?_
  rw [lI_div hx0 hy]
  exact k ls hl H locs hP hD hS

theorem w_i2l (h : Cx Wx l D κ ε own cc mL ret R post Γ) {x : Int} (d : decode cc pc = .ok (.i2l, 1)) (hx0 : -2147483648 ≤ x ∧ x < 2147483648) (k : WW Γ mL u (pc + 1) L (.long (lI x) :: st)) : WW Γ mL u pc L (.int (iI x) :: st) := by
  obtain ⟨p, e, s, m, args, below, meth, c, A, Q, rfl, hx, hb, hml, hown, hts, hK, hE, hA, hfin⟩ := h
  intro ls hl H locs hP hD hS
  exact lv_i2l hx hb d (iI_l hx0) (k ls hl H locs hP hD hS)

theorem w_l2i (h : Cx Wx l D κ ε own cc mL ret R post Γ) {x : Int} (d : decode cc pc = .ok (.l2i, 1))  (k : WW Γ mL u (pc + 1) L (.int (iI x) :: st)) : WW Γ mL u pc L (.long (lI x) :: st) := by
  obtain ⟨p, e, s, m, args, below, meth, c, A, Q, rfl, hx, hb, hml, hown, hts, hK, hE, hA, hfin⟩ := h
  intro ls hl H locs hP hD hS
  exact lv_l2i hx hb d (lI_i x) (k ls hl H locs hP hD hS)

theorem w_i2d (h : Cx Wx l D κ ε own cc mL ret R post Γ) {x : Int32} (d : decode cc pc = .ok (.i2d, 1))  (k : WW Γ mL u (pc + 1) L (.double (FP.i2d x) :: st)) : WW Γ mL u pc L (.int x :: st) := by
  obtain ⟨p, e, s, m, args, below, meth, c, A, Q, rfl, hx, hb, hml, hown, hts, hK, hE, hA, hfin⟩ := h
  intro ls hl H locs hP hD hS
  exact lv_i2d hx hb d (k ls hl H locs hP hD hS)

theorem w_ddiv (h : Cx Wx l D κ ε own cc mL ret R post Γ) {x y : UInt64} (d : decode cc pc = .ok (.ddiv, 1)) (hn : vf_n64 (FP.ddiv x y)) (k : WW Γ mL u (pc + 1) L (.double (FP.ddiv x y) :: st)) : WW Γ mL u pc L (.double y :: .double x :: st) := by
  obtain ⟨p, e, s, m, args, below, meth, c, A, Q, rfl, hx, hb, hml, hown, hts, hK, hE, hA, hfin⟩ := h
  intro ls hl H locs hP hD hS
  exact lv_ddiv hx hb d hn (k ls hl H locs hP hD hS)

theorem w_dmul (h : Cx Wx l D κ ε own cc mL ret R post Γ) {x y : UInt64} (d : decode cc pc = .ok (.dmul, 1)) (hn : vf_n64 (FP.dmul x y)) (k : WW Γ mL u (pc + 1) L (.double (FP.dmul x y) :: st)) : WW Γ mL u pc L (.double y :: .double x :: st) := by
  obtain ⟨p, e, s, m, args, below, meth, c, A, Q, rfl, hx, hb, hml, hown, hts, hK, hE, hA, hfin⟩ := h
  intro ls hl H locs hP hD hS
  exact lv_dmul hx hb d hn (k ls hl H locs hP hD hS)

theorem w_dcmp (h : Cx Wx l D κ ε own cc mL ret R post Γ) {x y : UInt64} {op : CmpOp} (d : decode cc pc = .ok (.dcmp op, 1))  (k : WW Γ mL u (pc + 1) L (.int (Op.cmpValue (FP.dcmp x y) op) :: st)) : WW Γ mL u pc L (.double y :: .double x :: st) := by
  obtain ⟨p, e, s, m, args, below, meth, c, A, Q, rfl, hx, hb, hml, hown, hts, hK, hE, hA, hfin⟩ := h
  intro ls hl H locs hP hD hS
  exact lv_dcmp hx hb d (k ls hl H locs hP hD hS)

theorem w_iand (h : Cx Wx l D κ ε own cc mL ret R post Γ) {x y : Int32} {z : Int} (d : decode cc pc = .ok (.iand, 1)) (hz : x &&& y = iI z) (k : WW Γ mL u (pc + 1) L (.int (iI z) :: st)) : WW Γ mL u pc L (.int y :: .int x :: st) := by
  obtain ⟨p, e, s, m, args, below, meth, c, A, Q, rfl, hx, hb, hml, hown, hts, hK, hE, hA, hfin⟩ := h
  intro ls hl H locs hP hD hS
  refine lv_iand hx hb d ?_
  rw [hz]
  exact k ls hl H locs hP hD hS

theorem w_ior (h : Cx Wx l D κ ε own cc mL ret R post Γ) {x y : Int32} {z : Int} (d : decode cc pc = .ok (.ior, 1)) (hz : x ||| y = iI z) (k : WW Γ mL u (pc + 1) L (.int (iI z) :: st)) : WW Γ mL u pc L (.int y :: .int x :: st) := by
  obtain ⟨p, e, s, m, args, below, meth, c, A, Q, rfl, hx, hb, hml, hown, hts, hK, hE, hA, hfin⟩ := h
  intro ls hl H locs hP hD hS
  refine lv_ior hx hb d ?_
  rw [hz]
  exact k ls hl H locs hP hD hS

theorem w_ixor (h : Cx Wx l D κ ε own cc mL ret R post Γ) {x y : Int32} {z : Int} (d : decode cc pc = .ok (.ixor, 1)) (hz : x ^^^ y = iI z) (k : WW Γ mL u (pc + 1) L (.int (iI z) :: st)) : WW Γ mL u pc L (.int y :: .int x :: st) := by
  obtain ⟨p, e, s, m, args, below, meth, c, A, Q, rfl, hx, hb, hml, hown, hts, hK, hE, hA, hfin⟩ := h
  intro ls hl H locs hP hD hS
  refine lv_ixor hx hb d ?_
  rw [hz]
  exact k ls hl H locs hP hD hS

theorem w_ishl (h : Cx Wx l D κ ε own cc mL ret R post Γ) {x y : Int32} {z : Int} (d : decode cc pc = .ok (.ishl, 1)) (hz : x <<< (y &&& 31) = iI z) (k : WW Γ mL u (pc + 1) L (.int (iI z) :: st)) : WW Γ mL u pc L (.int y :: .int x :: st) := by
  obtain ⟨p, e, s, m, args, below, meth, c, A, Q, rfl, hx, hb, hml, hown, hts, hK, hE, hA, hfin⟩ := h
  intro ls hl H locs hP hD hS
  refine lv_ishl hx hb d ?_
  rw [hz]
  exact k ls hl H locs hP hD hS

theorem w_ishr (h : Cx Wx l D κ ε own cc mL ret R post Γ) {x y : Int32} {z : Int} (d : decode cc pc = .ok (.ishr, 1)) (hz : x >>> (y &&& 31) = iI z) (k : WW Γ mL u (pc + 1) L (.int (iI z) :: st)) : WW Γ mL u pc L (.int y :: .int x :: st) := by
  obtain ⟨p, e, s, m, args, below, meth, c, A, Q, rfl, hx, hb, hml, hown, hts, hK, hE, hA, hfin⟩ := h
  intro ls hl H locs hP hD hS
  refine lv_ishr hx hb d ?_
  rw [hz]
  exact k ls hl H locs hP hD hS

theorem w_lcmp (h : Cx Wx l D κ ε own cc mL ret R post Γ) {x y : Int} (d : decode cc pc = .ok (.lcmp, 1))  (k : WW Γ mL u (pc + 1) L (.int (lg_cmp (lI x) (lI y)) :: st)) : WW Γ mL u pc L (.long (lI y) :: .long (lI x) :: st) := by
  obtain ⟨p, e, s, m, args, below, meth, c, A, Q, rfl, hx, hb, hml, hown, hts, hK, hE, hA, hfin⟩ := h
  intro ls hl H locs hP hD hS
  exact W.lcmp hx hb d (k ls hl H locs hP hD hS)

theorem w_dup (h : Cx Wx l D κ ε own cc mL ret R post Γ) {v : Value} (d : decode cc pc = .ok (.dup, 1)) (hc : v.category = 1) (k : WW Γ mL u (pc + 1) L (v :: v :: st)) : WW Γ mL u pc L (v :: st) := by
  obtain ⟨p, e, s, m, args, below, meth, c, A, Q, rfl, hx, hb, hml, hown, hts, hK, hE, hA, hfin⟩ := h
  intro ls hl H locs hP hD hS
  exact lv_dup hx hb d hc (k ls hl H locs hP hD hS)

theorem w_pop (h : Cx Wx l D κ ε own cc mL ret R post Γ) {v : Value} (d : decode cc pc = .ok (.pop, 1)) (hc : v.category = 1) (k : WW Γ mL u (pc + 1) L (st)) : WW Γ mL u pc L (v :: st) := by
  obtain ⟨p, e, s, m, args, below, meth, c, A, Q, rfl, hx, hb, hml, hown, hts, hK, hE, hA, hfin⟩ := h
  intro ls hl H locs hP hD hS
  exact lv_pop hx hb d hc (k ls hl H locs hP hD hS)

theorem w_dup2 (h : Cx Wx l D κ ε own cc mL ret R post Γ) {v w : Value} (d : decode cc pc = .ok (.dup2, 1)) (hc : v.category = 1) (hc2 : w.category = 1) (k : WW Γ mL u (pc + 1) L (v :: w :: v :: w :: st)) : WW Γ mL u pc L (v :: w :: st) := by
  obtain ⟨p, e, s, m, args, below, meth, c, A, Q, rfl, hx, hb, hml, hown, hts, hK, hE, hA, hfin⟩ := h
  intro ls hl H locs hP hD hS
  exact lv_dup2_11 hx hb d hc hc2 (k ls hl H locs hP hD hS)

theorem w_dup_x1 (h : Cx Wx l D κ ε own cc mL ret R post Γ) {v w : Value} (d : decode cc pc = .ok (.dup_x1, 1)) (hc : v.category = 1) (hc2 : w.category = 1) (k : WW Γ mL u (pc + 1) L (v :: w :: v :: st)) : WW Γ mL u pc L (v :: w :: st) := by
  obtain ⟨p, e, s, m, args, below, meth, c, A, Q, rfl, hx, hb, hml, hown, hts, hK, hE, hA, hfin⟩ := h
  intro ls hl H locs hP hD hS
  exact lv_dup_x1 hx hb d hc hc2 (k ls hl H locs hP hD hS)

theorem w_goto (h : Cx Wx l D κ ε own cc mL ret R post Γ) {off : Int} {tgt : Nat} (d : decode cc pc = .ok (.goto off, 3)) (ht : (pc : Int) + off = (tgt : Int)) (k : WW Γ mL u tgt L st) : WW Γ mL u pc L st := by
  obtain ⟨p, e, s, m, args, below, meth, c, A, Q, rfl, hx, hb, hml, hown, hts, hK, hE, hA, hfin⟩ := h
  intro ls hl H locs hP hD hS
  exact lv_goto hx hb d ht (k ls hl H locs hP hD hS)

theorem w_icmp_eq (h : Cx Wx l D κ ε own cc mL ret R post Γ) {off : Int} {tgt : Nat} {x y : Int} (d : decode cc pc = .ok (.if_icmp .eq off, 3)) (ht : (pc : Int) + off = (tgt : Int)) (hx0 : -2147483648 ≤ x ∧ x < 2147483648) (hy : -2147483648 ≤ y ∧ y < 2147483648) (kt : x = y → WW Γ mL u tgt L st) (kf : x ≠ y → WW Γ mL u (pc + 3) L st) : WW Γ mL u pc L (.int (iI y) :: .int (iI x) :: st) := by
  obtain ⟨p, e, s, m, args, below, meth, c, A, Q, rfl, hx, hb, hml, hown, hts, hK, hE, hA, hfin⟩ := h
  intro ls hl H locs hP hD hS
  exact lv_icmp_eq hx hb d ht (fun z => kt ((iI_eq hx0 hy).mp z) ls hl H locs hP hD hS) (fun z => kf (fun w => z ((iI_eq hx0 hy).mpr w)) ls hl H locs hP hD hS)

theorem w_if_eq (h : Cx Wx l D κ ε own cc mL ret R post Γ) {off : Int} {tgt : Nat} {x : Int} (d : decode cc pc = .ok (.ifCond .eq off, 3)) (ht : (pc : Int) + off = (tgt : Int)) (hx0 : -2147483648 ≤ x ∧ x < 2147483648)  (kt : x = 0 → WW Γ mL u tgt L st) (kf : x ≠ 0 → WW Γ mL u (pc + 3) L st) : WW Γ mL u pc L (.int (iI x) :: st) := by
  obtain ⟨p, e, s, m, args, below, meth, c, A, Q, rfl, hx, hb, hml, hown, hts, hK, hE, hA, hfin⟩ := h
  have hy : -2147483648 ≤ (0 : Int) ∧ (0 : Int) < 2147483648 := by omega
  intro ls hl H locs hP hD hS
  exact lv_if_eq hx hb d ht (fun z => kt ((iI_eq hx0 hy).mp z) ls hl H locs hP hD hS) (fun z => kf (fun w => z ((iI_eq hx0 hy).mpr w)) ls hl H locs hP hD hS)

theorem w_icmp_ne (h : Cx Wx l D κ ε own cc mL ret R post Γ) {off : Int} {tgt : Nat} {x y : Int} (d : decode cc pc = .ok (.if_icmp .ne off, 3)) (ht : (pc : Int) + off = (tgt : Int)) (hx0 : -2147483648 ≤ x ∧ x < 2147483648) (hy : -2147483648 ≤ y ∧ y < 2147483648) (kt : x ≠ y → WW Γ mL u tgt L st) (kf : x = y → WW Γ mL u (pc + 3) L st) : WW Γ mL u pc L (.int (iI y) :: .int (iI x) :: st) := by
  obtain ⟨p, e, s, m, args, below, meth, c, A, Q, rfl, hx, hb, hml, hown, hts, hK, hE, hA, hfin⟩ := h
  intro ls hl H locs hP hD hS
  exact lv_icmp_ne hx hb d ht (fun z => kt ((fun w => z ((iI_eq hx0 hy).mpr w))) ls hl H locs hP hD hS) (fun z => kf ((iI_eq hx0 hy).mp z) ls hl H locs hP hD hS)

theorem w_if_ne (h : Cx Wx l D κ ε own cc mL ret R post Γ) {off : Int} {tgt : Nat} {x : Int} (d : decode cc pc = .ok (.ifCond .ne off, 3)) (ht : (pc : Int) + off = (tgt : Int)) (hx0 : -2147483648 ≤ x ∧ x < 2147483648)  (kt : x ≠ 0 → WW Γ mL u tgt L st) (kf : x = 0 → WW Γ mL u (pc + 3) L st) : WW Γ mL u pc L (.int (iI x) :: st) := by
  obtain ⟨p, e, s, m, args, below, meth, c, A, Q, rfl, hx, hb, hml, hown, hts, hK, hE, hA, hfin⟩ := h
  have hy : -2147483648 ≤ (0 : Int) ∧ (0 : Int) < 2147483648 := by omega
  intro ls hl H locs hP hD hS
  exact lv_if_ne hx hb d ht (fun z => kt ((fun w => z ((iI_eq hx0 hy).mpr w))) ls hl H locs hP hD hS) (fun z => kf ((iI_eq hx0 hy).mp z) ls hl H locs hP hD hS)

theorem w_icmp_lt (h : Cx Wx l D κ ε own cc mL ret R post Γ) {off : Int} {tgt : Nat} {x y : Int} (d : decode cc pc = .ok (.if_icmp .lt off, 3)) (ht : (pc : Int) + off = (tgt : Int)) (hx0 : -2147483648 ≤ x ∧ x < 2147483648) (hy : -2147483648 ≤ y ∧ y < 2147483648) (kt : x < y → WW Γ mL u tgt L st) (kf : y ≤ x → WW Γ mL u (pc + 3) L st) : WW Γ mL u pc L (.int (iI y) :: .int (iI x) :: st) := by
  obtain ⟨p, e, s, m, args, below, meth, c, A, Q, rfl, hx, hb, hml, hown, hts, hK, hE, hA, hfin⟩ := h
  intro ls hl H locs hP hD hS
  exact lv_icmp_lt hx hb d ht (fun z => kt ((iI_lt hx0 hy).mp z) ls hl H locs hP hD hS) (fun z => kf (Int.not_lt.mp (fun w => z ((iI_lt hx0 hy).mpr w))) ls hl H locs hP hD hS)

theorem w_if_lt (h : Cx Wx l D κ ε own cc mL ret R post Γ) {off : Int} {tgt : Nat} {x : Int} (d : decode cc pc = .ok (.ifCond .lt off, 3)) (ht : (pc : Int) + off = (tgt : Int)) (hx0 : -2147483648 ≤ x ∧ x < 2147483648)  (kt : x < 0 → WW Γ mL u tgt L st) (kf : 0 ≤ x → WW Γ mL u (pc + 3) L st) : WW Γ mL u pc L (.int (iI x) :: st) := by
  obtain ⟨p, e, s, m, args, below, meth, c, A, Q, rfl, hx, hb, hml, hown, hts, hK, hE, hA, hfin⟩ := h
  have hy : -2147483648 ≤ (0 : Int) ∧ (0 : Int) < 2147483648 := by omega
  intro ls hl H locs hP hD hS
  exact lv_if_lt hx hb d ht (fun z => kt ((iI_lt hx0 hy).mp z) ls hl H locs hP hD hS) (fun z => kf (Int.not_lt.mp (fun w => z ((iI_lt hx0 hy).mpr w))) ls hl H locs hP hD hS)

theorem w_icmp_ge (h : Cx Wx l D κ ε own cc mL ret R post Γ) {off : Int} {tgt : Nat} {x y : Int} (d : decode cc pc = .ok (.if_icmp .ge off, 3)) (ht : (pc : Int) + off = (tgt : Int)) (hx0 : -2147483648 ≤ x ∧ x < 2147483648) (hy : -2147483648 ≤ y ∧ y < 2147483648) (kt : y ≤ x → WW Γ mL u tgt L st) (kf : x < y → WW Γ mL u (pc + 3) L st) : WW Γ mL u pc L (.int (iI y) :: .int (iI x) :: st) := by
  obtain ⟨p, e, s, m, args, below, meth, c, A, Q, rfl, hx, hb, hml, hown, hts, hK, hE, hA, hfin⟩ := h
  intro ls hl H locs hP hD hS
  exact lv_icmp_ge hx hb d ht (fun z => kt ((iI_le hy hx0).mp z) ls hl H locs hP hD hS) (fun z => kf (Int.not_le.mp (fun w => z ((iI_le hy hx0).mpr w))) ls hl H locs hP hD hS)

theorem w_if_ge (h : Cx Wx l D κ ε own cc mL ret R post Γ) {off : Int} {tgt : Nat} {x : Int} (d : decode cc pc = .ok (.ifCond .ge off, 3)) (ht : (pc : Int) + off = (tgt : Int)) (hx0 : -2147483648 ≤ x ∧ x < 2147483648)  (kt : 0 ≤ x → WW Γ mL u tgt L st) (kf : x < 0 → WW Γ mL u (pc + 3) L st) : WW Γ mL u pc L (.int (iI x) :: st) := by
  obtain ⟨p, e, s, m, args, below, meth, c, A, Q, rfl, hx, hb, hml, hown, hts, hK, hE, hA, hfin⟩ := h
  have hy : -2147483648 ≤ (0 : Int) ∧ (0 : Int) < 2147483648 := by omega
  intro ls hl H locs hP hD hS
  exact lv_if_ge hx hb d ht (fun z => kt ((iI_le hy hx0).mp z) ls hl H locs hP hD hS) (fun z => kf (Int.not_le.mp (fun w => z ((iI_le hy hx0).mpr w))) ls hl H locs hP hD hS)

theorem w_icmp_gt (h : Cx Wx l D κ ε own cc mL ret R post Γ) {off : Int} {tgt : Nat} {x y : Int} (d : decode cc pc = .ok (.if_icmp .gt off, 3)) (ht : (pc : Int) + off = (tgt : Int)) (hx0 : -2147483648 ≤ x ∧ x < 2147483648) (hy : -2147483648 ≤ y ∧ y < 2147483648) (kt : y < x → WW Γ mL u tgt L st) (kf : x ≤ y → WW Γ mL u (pc + 3) L st) : WW Γ mL u pc L (.int (iI y) :: .int (iI x) :: st) := by
  obtain ⟨p, e, s, m, args, below, meth, c, A, Q, rfl, hx, hb, hml, hown, hts, hK, hE, hA, hfin⟩ := h
  intro ls hl H locs hP hD hS
  exact lv_icmp_gt hx hb d ht (fun z => kt ((iI_lt hy hx0).mp z) ls hl H locs hP hD hS) (fun z => kf (Int.not_lt.mp (fun w => z ((iI_lt hy hx0).mpr w))) ls hl H locs hP hD hS)

theorem w_if_gt (h : Cx Wx l D κ ε own cc mL ret R post Γ) {off : Int} {tgt : Nat} {x : Int} (d : decode cc pc = .ok (.ifCond .gt off, 3)) (ht : (pc : Int) + off = (tgt : Int)) (hx0 : -2147483648 ≤ x ∧ x < 2147483648)  (kt : 0 < x → WW Γ mL u tgt L st) (kf : x ≤ 0 → WW Γ mL u (pc + 3) L st) : WW Γ mL u pc L (.int (iI x) :: st) := by
  obtain ⟨p, e, s, m, args, below, meth, c, A, Q, rfl, hx, hb, hml, hown, hts, hK, hE, hA, hfin⟩ := h
  have hy : -2147483648 ≤ (0 : Int) ∧ (0 : Int) < 2147483648 := by omega
  intro ls hl H locs hP hD hS
  exact lv_if_gt hx hb d ht (fun z => kt ((iI_lt hy hx0).mp z) ls hl H locs hP hD hS) (fun z => kf (Int.not_lt.mp (fun w => z ((iI_lt hy hx0).mpr w))) ls hl H locs hP hD hS)

theorem w_icmp_le (h : Cx Wx l D κ ε own cc mL ret R post Γ) {off : Int} {tgt : Nat} {x y : Int} (d : decode cc pc = .ok (.if_icmp .le off, 3)) (ht : (pc : Int) + off = (tgt : Int)) (hx0 : -2147483648 ≤ x ∧ x < 2147483648) (hy : -2147483648 ≤ y ∧ y < 2147483648) (kt : x ≤ y → WW Γ mL u tgt L st) (kf : y < x → WW Γ mL u (pc + 3) L st) : WW Γ mL u pc L (.int (iI y) :: .int (iI x) :: st) := by
  obtain ⟨p, e, s, m, args, below, meth, c, A, Q, rfl, hx, hb, hml, hown, hts, hK, hE, hA, hfin⟩ := h
  intro ls hl H locs hP hD hS
  exact lv_icmp_le hx hb d ht (fun z => kt ((iI_le hx0 hy).mp z) ls hl H locs hP hD hS) (fun z => kf (Int.not_le.mp (fun w => z ((iI_le hx0 hy).mpr w))) ls hl H locs hP hD hS)

theorem w_if_le (h : Cx Wx l D κ ε own cc mL ret R post Γ) {off : Int} {tgt : Nat} {x : Int} (d : decode cc pc = .ok (.ifCond .le off, 3)) (ht : (pc : Int) + off = (tgt : Int)) (hx0 : -2147483648 ≤ x ∧ x < 2147483648)  (kt : x ≤ 0 → WW Γ mL u tgt L st) (kf : 0 < x → WW Γ mL u (pc + 3) L st) : WW Γ mL u pc L (.int (iI x) :: st) := by
  obtain ⟨p, e, s, m, args, below, meth, c, A, Q, rfl, hx, hb, hml, hown, hts, hK, hE, hA, hfin⟩ := h
  have hy : -2147483648 ≤ (0 : Int) ∧ (0 : Int) < 2147483648 := by omega
  intro ls hl H locs hP hD hS
  exact lv_if_le hx hb d ht (fun z => kt ((iI_le hx0 hy).mp z) ls hl H locs hP hD hS) (fun z => kf (Int.not_le.mp (fun w => z ((iI_le hx0 hy).mpr w))) ls hl H locs hP hD hS)

theorem w_lif_gt (h : Cx Wx l D κ ε own cc mL ret R post Γ) {off : Int} {tgt : Nat} {x y : Int} (d : decode cc pc = .ok (.ifCond .gt off, 3)) (ht : (pc : Int) + off = (tgt : Int)) (hx0 : -9223372036854775808 ≤ x ∧ x < 9223372036854775808) (hy : -9223372036854775808 ≤ y ∧ y < 9223372036854775808) (kt : y < x → WW Γ mL u tgt L st) (kf : x ≤ y → WW Γ mL u (pc + 3) L st) : WW Γ mL u pc L (.int (lg_cmp (lI x) (lI y)) :: st) := by
  obtain ⟨p, e, s, m, args, below, meth, c, A, Q, rfl, hx, hb, hml, hown, hts, hK, hE, hA, hfin⟩ := h
  intro ls hl H locs hP hD hS
  exact lv_if_gt hx hb d ht (fun z => kt (((lg_cmp_gt _ _).trans (lI_lt hy hx0)).mp z) ls hl H locs hP hD hS) (fun z => kf (Int.not_lt.mp (fun w => z (((lg_cmp_gt _ _).trans (lI_lt hy hx0)).mpr w))) ls hl H locs hP hD hS)

theorem w_lif_le (h : Cx Wx l D κ ε own cc mL ret R post Γ) {off : Int} {tgt : Nat} {x y : Int} (d : decode cc pc = .ok (.ifCond .le off, 3)) (ht : (pc : Int) + off = (tgt : Int)) (hx0 : -9223372036854775808 ≤ x ∧ x < 9223372036854775808) (hy : -9223372036854775808 ≤ y ∧ y < 9223372036854775808) (kt : x ≤ y → WW Γ mL u tgt L st) (kf : y < x → WW Γ mL u (pc + 3) L st) : WW Γ mL u pc L (.int (lg_cmp (lI x) (lI y)) :: st) := by
  obtain ⟨p, e, s, m, args, below, meth, c, A, Q, rfl, hx, hb, hml, hown, hts, hK, hE, hA, hfin⟩ := h
  intro ls hl H locs hP hD hS
  exact lv_if_le hx hb d ht (fun z => kt (((lg_cmp_le _ _).trans (lI_le hx0 hy)).mp z) ls hl H locs hP hD hS) (fun z => kf (Int.not_le.mp (fun w => z (((lg_cmp_le _ _).trans (lI_le hx0 hy)).mpr w))) ls hl H locs hP hD hS)

theorem w_lif_ge (h : Cx Wx l D κ ε own cc mL ret R post Γ) {off : Int} {tgt : Nat} {x y : Int} (d : decode cc pc = .ok (.ifCond .ge off, 3)) (ht : (pc : Int) + off = (tgt : Int)) (hx0 : -9223372036854775808 ≤ x ∧ x < 9223372036854775808) (hy : -9223372036854775808 ≤ y ∧ y < 9223372036854775808) (kt : y ≤ x → WW Γ mL u tgt L st) (kf : x < y → WW Γ mL u (pc + 3) L st) : WW Γ mL u pc L (.int (lg_cmp (lI x) (lI y)) :: st) := by
  obtain ⟨p, e, s, m, args, below, meth, c, A, Q, rfl, hx, hb, hml, hown, hts, hK, hE, hA, hfin⟩ := h
  intro ls hl H locs hP hD hS
  exact lv_if_ge hx hb d ht (fun z => kt (((lg_cmp_ge _ _).trans (lI_le hy hx0)).mp z) ls hl H locs hP hD hS) (fun z => kf (Int.not_le.mp (fun w => z (((lg_cmp_ge _ _).trans (lI_le hy hx0)).mpr w))) ls hl H locs hP hD hS)

theorem w_lif_lt (h : Cx Wx l D κ ε own cc mL ret R post Γ) {off : Int} {tgt : Nat} {x y : Int} (d : decode cc pc = .ok (.ifCond .lt off, 3)) (ht : (pc : Int) + off = (tgt : Int)) (hx0 : -9223372036854775808 ≤ x ∧ x < 9223372036854775808) (hy : -9223372036854775808 ≤ y ∧ y < 9223372036854775808) (kt : x < y → WW Γ mL u tgt L st) (kf : y ≤ x → WW Γ mL u (pc + 3) L st) : WW Γ mL u pc L (.int (lg_cmp (lI x) (lI y)) :: st) := by
  obtain ⟨p, e, s, m, args, below, meth, c, A, Q, rfl, hx, hb, hml, hown, hts, hK, hE, hA, hfin⟩ := h
  intro ls hl H locs hP hD hS
  exact lv_if_lt hx hb d ht (fun z => kt (((lg_cmp_lt _ _).trans (lI_lt hx0 hy)).mp z) ls hl H locs hP hD hS) (fun z => kf (Int.not_lt.mp (fun w => z (((lg_cmp_lt _ _).trans (lI_lt hx0 hy)).mpr w))) ls hl H locs hP hD hS)

theorem w_lif_eq (h : Cx Wx l D κ ε own cc mL ret R post Γ) {off : Int} {tgt : Nat} {x y : Int} (d : decode cc pc = .ok (.ifCond .eq off, 3)) (ht : (pc : Int) + off = (tgt : Int)) (hx0 : -9223372036854775808 ≤ x ∧ x < 9223372036854775808) (hy : -9223372036854775808 ≤ y ∧ y < 9223372036854775808) (kt : x = y → WW Γ mL u tgt L st) (kf : x ≠ y → WW Γ mL u (pc + 3) L st) : WW Γ mL u pc L (.int (lg_cmp (lI x) (lI y)) :: st) := by
  obtain ⟨p, e, s, m, args, below, meth, c, A, Q, rfl, hx, hb, hml, hown, hts, hK, hE, hA, hfin⟩ := h
  intro ls hl H locs hP hD hS
  exact lv_if_eq hx hb d ht (fun z => kt (((lg_cmp_eq _ _).trans (lI_eq hx0 hy)).mp z) ls hl H locs hP hD hS) (fun z => kf (fun w => z (((lg_cmp_eq _ _).trans (lI_eq hx0 hy)).mpr w)) ls hl H locs hP hD hS)

theorem w_lif_ne (h : Cx Wx l D κ ε own cc mL ret R post Γ) {off : Int} {tgt : Nat} {x y : Int} (d : decode cc pc = .ok (.ifCond .ne off, 3)) (ht : (pc : Int) + off = (tgt : Int)) (hx0 : -9223372036854775808 ≤ x ∧ x < 9223372036854775808) (hy : -9223372036854775808 ≤ y ∧ y < 9223372036854775808) (kt : x ≠ y → WW Γ mL u tgt L st) (kf : x = y → WW Γ mL u (pc + 3) L st) : WW Γ mL u pc L (.int (lg_cmp (lI x) (lI y)) :: st) := by
  obtain ⟨p, e, s, m, args, below, meth, c, A, Q, rfl, hx, hb, hml, hown, hts, hK, hE, hA, hfin⟩ := h
  intro ls hl H locs hP hD hS
  exact lv_if_ne hx hb d ht (fun z => kt (fun w => z (((lg_cmp_eq _ _).trans (lI_eq hx0 hy)).mpr w)) ls hl H locs hP hD hS) (fun z => kf (((lg_cmp_eq _ _).trans (lI_eq hx0 hy)).mp z) ls hl H locs hP hD hS)

theorem w_tabIn (h : Cx Wx l D κ ε own cc mL ret R post Γ) {dflt lo hi off : Int} {offs : Array Int} {len tgt : Nat} {x : Int} (d : decode cc pc = .ok (.tableswitch dflt lo hi offs, len)) (hx0 : -2147483648 ≤ x ∧ x < 2147483648) (h1 : ¬ x < lo) (h2 : ¬ hi < x) (ho : offs[(x - lo).toNat]? = some off) (ht : (pc : Int) + off = (tgt : Int)) (k : WW Γ mL u tgt L st) : WW Γ mL u pc L (.int (iI x) :: st) := by
  obtain ⟨p, e, s, m, args, below, meth, c, A, Q, rfl, hx, hb, hml, hown, hts, hK, hE, hA, hfin⟩ := h
  intro ls hl H locs hP hD hS
  exact lv_tableIn hx hb d (by rw [iI_toInt hx0]; exact h1) (by rw [iI_toInt hx0]; exact h2) (by rw [iI_toInt hx0]; exact ho) ht (k ls hl H locs hP hD hS)
theorem w_tabOut (h : Cx Wx l D κ ε own cc mL ret R post Γ) {dflt lo hi : Int} {offs : Array Int} {len tgt : Nat} {x : Int} (d : decode cc pc = .ok (.tableswitch dflt lo hi offs, len)) (hx0 : -2147483648 ≤ x ∧ x < 2147483648) (h1 : x < lo ∨ hi < x) (ht : (pc : Int) + dflt = (tgt : Int)) (k : WW Γ mL u tgt L st) : WW Γ mL u pc L (.int (iI x) :: st) := by
  obtain ⟨p, e, s, m, args, below, meth, c, A, Q, rfl, hx, hb, hml, hown, hts, hK, hE, hA, hfin⟩ := h
  intro ls hl H locs hP hD hS
  exact lv_tableOut hx hb d (by rw [iI_toInt hx0]; exact h1) ht (k ls hl H locs hP hD hS)

theorem w_vret (h : Cx Wx l D κ ε own cc mL ret R post Γ) (hr : ret = none) (d : decode cc pc = .ok (.return_, 1)) (hc : (Wx u).2.1 ≤ R.cells) (hs : (Wx u).2.2 ≤ R.slots) (hp : post none u) : WW Γ mL u pc L [] := by
  obtain ⟨p, e, s, m, args, below, meth, c, A, Q, rfl, hx, hb, hml, hown, hts, hK, hE, hA, hfin⟩ := h
  intro ls hl H locs hP hD hS
  exact hfin u pc ls none H locs (Or.inl ⟨rfl, hr, d⟩) hp hc hs hP hD hS

theorem w_iret (h : Cx Wx l D κ ε own cc mL ret R post Γ) {x : Int32} {ty : FieldType} (hr : ret = some ty) (hn : narrow ty (.int x) = .int x) (d : decode cc pc = .ok (.ireturn, 1)) (hc : (Wx u).2.1 ≤ R.cells) (hs : (Wx u).2.2 ≤ R.slots) (hp : post (some (.int x)) u) : WW Γ mL u pc L [.int x] := by
  obtain ⟨p, e, s, m, args, below, meth, c, A, Q, rfl, hx, hb, hml, hown, hts, hK, hE, hA, hfin⟩ := h
  intro ls hl H locs hP hD hS
  exact hfin u pc ls (some (.int x)) H locs (Or.inr (Or.inl ⟨x, ty, rfl, hr, hn, d⟩)) hp hc hs hP hD hS

theorem w_lret (h : Cx Wx l D κ ε own cc mL ret R post Γ) {x : Int64} (hr : ret = some .long) (d : decode cc pc = .ok (.lreturn, 1)) (hc : (Wx u).2.1 ≤ R.cells) (hs : (Wx u).2.2 ≤ R.slots) (hp : post (some (.long x)) u) : WW Γ mL u pc L [.long x] := by
  obtain ⟨p, e, s, m, args, below, meth, c, A, Q, rfl, hx, hb, hml, hown, hts, hK, hE, hA, hfin⟩ := h
  intro ls hl H locs hP hD hS
  exact hfin u pc ls (some (.long x)) H locs (Or.inr (Or.inr (Or.inl ⟨x, rfl, hr, d⟩))) hp hc hs hP hD hS

theorem w_dret (h : Cx Wx l D κ ε own cc mL ret R post Γ) {x : UInt64} (hr : ret = some .double) (d : decode cc pc = .ok (.dreturn, 1)) (hc : (Wx u).2.1 ≤ R.cells) (hs : (Wx u).2.2 ≤ R.slots) (hp : post (some (.double x)) u) : WW Γ mL u pc L [.double x] := by
  obtain ⟨p, e, s, m, args, below, meth, c, A, Q, rfl, hx, hb, hml, hown, hts, hK, hE, hA, hfin⟩ := h
  intro ls hl H locs hP hD hS
  exact hfin u pc ls (some (.double x)) H locs (Or.inr (Or.inr (Or.inr (Or.inl ⟨x, rfl, hr, d⟩)))) hp hc hs hP hD hS

theorem w_aret (h : Cx Wx l D κ ε own cc mL ret R post Γ) {x : Nat} {rt : FieldType} (hr : ret = some rt) (hrt : (∃ n, rt = .object n) ∨ ∃ t, rt = .array t) (d : decode cc pc = .ok (.areturn, 1)) (hc : (Wx u).2.1 ≤ R.cells) (hs : (Wx u).2.2 ≤ R.slots) (hp : post (some (.ref x)) u) : WW Γ mL u pc L [.ref x] := by
  obtain ⟨p, e, s, m, args, below, meth, c, A, Q, rfl, hx, hb, hml, hown, hts, hK, hE, hA, hfin⟩ := h
  intro ls hl H locs hP hD hS
  exact hfin u pc ls (some (.ref x)) H locs (Or.inr (Or.inr (Or.inr (Or.inr ⟨x, rt, rfl, hr, hrt, d⟩)))) hp hc hs hP hD hS

/-- getfield, by the place of the object in the world -/
theorem w_get (h : Cx Wx l D κ ε own cc mL ret R post Γ) {ref C : String} {T : u_T} {N ci index a : Nat} (hin : ∀ w ∈ u_ws C T N, w ∈ Wall) (q0 : Nat) {fs : List Value} (he : (Wx u).1[q0]? = some (a, .inr (ci, fs))) (hc : vwCl[ci]? = some (C, T, N)) (kf : Nat) (hk : kf < N) (hlink : Cond.fieldLink own index ref (T kf).2.1 (T kf).2.2.1 ∈ Wall) (hsame : (T kf).1 = ref) {v : Value} (hv : fs[kf]? = some v) (d : decode cc pc = .ok (.getfield index, 3)) (k : WW Γ mL u (pc + 3) L (v :: st)) : WW Γ mL u pc L (.ref a :: st) := by
  obtain ⟨p, e, s, m, args, below, meth, c, A, Q, rfl, hx, hb, hml, hown, hts, hK, hE, hA, hfin⟩ := h
  intro ls hl H locs hP hD hS
  exact va_get hx hb hts hin hown hK hP q0 he hc kf hk (hts _ hlink) (fun _ h9 => by rw [← hsame]; exact h9) hv d (k ls hl H locs hP hD hS)
theorem w_put (h : Cx Wx l D κ ε own cc mL ret R post Γ) {ref C : String} {T : u_T} {N ci index a : Nat} (hin : ∀ w ∈ u_ws C T N, w ∈ Wall) (ty0 : Nat → FieldType) (hty : ∀ k, k < N → parseFieldDescriptor (T k).2.2.1 = some (ty0 k)) (hnm : ∀ a, a < N → ∀ b, b < N → a ≠ b → (T a).2.1 ≠ (T b).2.1) (q0 : Nat) {fs : List Value} (he : (Wx u).1[q0]? = some (a, .inr (ci, fs))) (hc : vwCl[ci]? = some (C, T, N)) (kf : Nat) (hk : kf < N) (hlink : Cond.fieldLink own index ref (T kf).2.1 (T kf).2.2.1 ∈ Wall) (hsame : (T kf).1 = ref) (hfin : (T kf).2.2.2 = false) {ty : FieldType} {v : Value} (hd : parseFieldDescriptor (T kf).2.2.1 = some ty) (hn : narrow ty v = v) (hfit : fits ty v = true) (hl9 : kf < fs.length) (d : decode cc pc = .ok (.putfield index, 3)) (u' : S) (hu : (Wx u).1.set q0 (a, .inr (ci, fs.set kf v)) = (Wx u').1) (hu2 : (Wx u).2 = (Wx u').2) (k : WW Γ mL u' (pc + 3) L st) : WW Γ mL u pc L (v :: .ref a :: st) := by
  obtain ⟨p, e, s, m, args, below, meth, c, A, Q, rfl, hx, hb, hml, hown, hts, hK, hE, hA, hfin9⟩ := h
  intro ls hl H locs hP hD hS
  refine va_put hx hb hts hin ty0 hty hnm hown hK hP hD hS q0 he hc kf hk (hts _ hlink) (fun _ h9 => by rw [← hsame]; exact h9) hfin hd hn hfit hl9 d (fun H locs hP hD hS => ?_)
  rw [hu] at hP hD
  rw [hu2]
  exact k ls hl H locs hP hD hS
theorem w_iald (h : Cx Wx l D κ ε own cc mL ret R post Γ) {a : Nat} (q0 : Nat) {n : Nat} {f : Nat → Int32} (he : (Wx u).1[q0]? = some (a, .inl (κ 0, n, .inl f))) {i : Int} (hi : 0 ≤ i ∧ i < n) (hn : n < 2147483648) {v : Int32} (hv : f i.toNat = v) (d : decode cc pc = .ok (.iaload, 1)) (k : WW Γ mL u (pc + 1) L (.int v :: st)) : WW Γ mL u pc L (.int (iI i) :: .ref a :: st) := by
  obtain ⟨p, e, s, m, args, below, meth, c, A, Q, rfl, hx, hb, hml, hown, hts, hK, hE, hA, hfin⟩ := h
  intro ls hl H locs hP hD hS
  refine va_iald (f := f) (n := n) hx hb hK hP q0 0 he rfl (iI_in hi hn) d ?_
  rw [iI_clamp hi.1 (by omega), hv]
  exact k ls hl H locs hP hD hS
theorem w_zald (h : Cx Wx l D κ ε own cc mL ret R post Γ) {a : Nat} (q0 : Nat) {n : Nat} {f : Nat → Int32} (he : (Wx u).1[q0]? = some (a, .inl (κ 1, n, .inl f))) {i : Int} (hi : 0 ≤ i ∧ i < n) (hn : n < 2147483648) {v : Int32} (hv : f i.toNat = v) (d : decode cc pc = .ok (.baload, 1)) (k : WW Γ mL u (pc + 1) L (.int v :: st)) : WW Γ mL u pc L (.int (iI i) :: .ref a :: st) := by
  obtain ⟨p, e, s, m, args, below, meth, c, A, Q, rfl, hx, hb, hml, hown, hts, hK, hE, hA, hfin⟩ := h
  intro ls hl H locs hP hD hS
  refine va_zald (f := f) (n := n) hx hb hK hP q0 1 he rfl (iI_in hi hn) d ?_
  rw [iI_clamp hi.1 (by omega), hv]
  exact k ls hl H locs hP hD hS
theorem w_aald (h : Cx Wx l D κ ε own cc mL ret R post Γ) {a : Nat} (q0 : Nat) {n : Nat} {f : Nat → Option Nat} (he : (Wx u).1[q0]? = some (a, .inl (κ 2, n, .inr (.inr (.inr (.inr f)))))) {i : Int} (hi : 0 ≤ i ∧ i < n) (hn : n < 2147483648) {b : Nat} (hv : f i.toNat = some b) (d : decode cc pc = .ok (.aaload, 1)) (k : WW Γ mL u (pc + 1) L (.ref b :: st)) : WW Γ mL u pc L (.int (iI i) :: .ref a :: st) := by
  obtain ⟨p, e, s, m, args, below, meth, c, A, Q, rfl, hx, hb, hml, hown, hts, hK, hE, hA, hfin⟩ := h
  intro ls hl H locs hP hD hS
  refine va_aldq (f := f) (n := n) hx hb hK hP q0 2 he rfl (iI_in hi hn) d ?_
  rw [iI_clamp hi.1 (by omega), hv]
  exact k ls hl H locs hP hD hS
theorem w_iast (h : Cx Wx l D κ ε own cc mL ret R post Γ) {a : Nat} (q0 : Nat) {n : Nat} {f : Nat → Int32} (he : (Wx u).1[q0]? = some (a, .inl (κ 0, n, .inl f))) {i : Int} {x : Int32} (hi : 0 ≤ i ∧ i < n) (hn : n < 2147483648) (d : decode cc pc = .ok (.iastore, 1)) (u' : S) (hu : (Wx u).1.set q0 (a, .inl (κ 0, n, .inl (upd f i.toNat x))) = (Wx u').1) (hu2 : (Wx u).2 = (Wx u').2) (k : WW Γ mL u' (pc + 1) L st) : WW Γ mL u pc L (.int x :: .int (iI i) :: .ref a :: st) := by
  obtain ⟨p, e, s, m, args, below, meth, c, A, Q, rfl, hx, hb, hml, hown, hts, hK, hE, hA, hfin⟩ := h
  intro ls hl H locs hP hD hS
  refine va_iast (f := f) (n := n) hx hb hK hP hD hS q0 0 he rfl (iI_in hi hn) d (fun H locs hP hD hS => ?_)
  rw [iI_clamp hi.1 (by omega), hu] at hP hD
  rw [hu2]
  exact k ls hl H locs hP hD hS
theorem w_zast (h : Cx Wx l D κ ε own cc mL ret R post Γ) {a : Nat} (q0 : Nat) {n : Nat} {f : Nat → Int32} (he : (Wx u).1[q0]? = some (a, .inl (κ 1, n, .inl f))) {i : Int} {x : Int32} (hi : 0 ≤ i ∧ i < n) (hn : n < 2147483648) (hx9 : vp_nar .boolean x = x) (d : decode cc pc = .ok (.bastore, 1)) (u' : S) (hu : (Wx u).1.set q0 (a, .inl (κ 1, n, .inl (upd f i.toNat x))) = (Wx u').1) (hu2 : (Wx u).2 = (Wx u').2) (k : WW Γ mL u' (pc + 1) L st) : WW Γ mL u pc L (.int x :: .int (iI i) :: .ref a :: st) := by
  obtain ⟨p, e, s, m, args, below, meth, c, A, Q, rfl, hx, hb, hml, hown, hts, hK, hE, hA, hfin⟩ := h
  intro ls hl H locs hP hD hS
  refine va_zast (f := f) (n := n) hx hb hK hP hD hS q0 1 he rfl (iI_in hi hn) d (fun H locs hP hD hS => ?_)
  rw [iI_clamp hi.1 (by omega), hx9, hu] at hP hD
  rw [hu2]
  exact k ls hl H locs hP hD hS
theorem w_alen (h : Cx Wx l D κ ε own cc mL ret R post Γ) {a : Nat} (q0 t0 : Nat) {ty : FieldType} {cA : ClassId} {x : vp_A} (he : (Wx u).1[q0]? = some (a, .inl (cA, x))) (ht : (tys κ)[t0]? = some (cA, ty)) (d : decode cc pc = .ok (.arraylength, 1)) (k : WW Γ mL u (pc + 1) L (.int (iI x.1) :: st)) : WW Γ mL u pc L (.ref a :: st) := by
  obtain ⟨p, e, s, m, args, below, meth, c, A, Q, rfl, hx, hb, hml, hown, hts, hK, hE, hA, hfin⟩ := h
  intro ls hl H locs hP hD hS
  exact va_alen hx hb hK hP q0 t0 he ht rfl d (k ls hl H locs hP hD hS)
theorem w_copy (h : Cx Wx l D κ ε own cc mL ret R post Γ) {index a0 a1 : Nat} (hlink : Cond.methodLink own index arraycopyName ∈ Wall) (hnat : Cond.native arraycopyName ∈ Wall) (hstat : Cond.static arraycopyName ∈ Wall) (hini : Cond.initialized "java/lang/System" ∈ Wall) (q0 q1 : Nat) {n0 n1 : Nat} {f g : Nat → Int32} (he0 : (Wx u).1[q0]? = some (a0, .inl (κ 0, n0, .inl f))) (he1 : (Wx u).1[q1]? = some (a1, .inl (κ 0, n1, .inl g))) {sp dp n : Int} (h1 : 0 ≤ sp ∧ sp < 1000000) (h2 : 0 ≤ dp ∧ dp < 1000000) (h3 : 0 ≤ n ∧ n < 1000000) (h4 : sp + n ≤ n0) (h5 : dp + n ≤ n1) (hfr : 1 ≤ R.frames) (hlo : (st.map fun v => v.category).sum + (nativeFrameWords "java/lang/System" "arraycopy" 5 + 11) ≤ R.locals) (d : decode cc pc = .ok (.invokestatic index, 3)) (u' : S) (hu : (Wx u).1.set q1 (a1, .inl (κ 0, n1, .inl (va_cpy f g sp.toNat dp.toNat n.toNat))) = (Wx u').1) (hu2 : (Wx u).2 = (Wx u').2) (k : WW Γ mL u' (pc + 3) L st) : WW Γ mL u pc L (.int (iI n) :: .int (iI dp) :: .ref a1 :: .int (iI sp) :: .ref a0 :: st) := by
  obtain ⟨p, e, s, m, args, below, meth, c, A, Q, rfl, hx, hb, hml, hown, hts, hK, hE, hA, hfin⟩ := h
  intro ls hl H locs hP hD hS
  have e1 := iI_clamp (z := sp) h1.1 (by omega)
  have e2 := iI_clamp (z := dp) h2.1 (by omega)
  have e3 := iI_clamp (z := n) h3.1 (by omega)
  have ng : ∀ z : Int, 0 ≤ z ∧ z < 1000000 → ¬ iI z < 0 := fun z hz hlt => by
    rw [show (0 : Int32) = iI 0 from rfl, iI_lt (by omega) (by omega)] at hlt
    omega
  refine va_copyi (f := f) (g := g) (n0 := n0) (n1 := n1) (c0 := κ 0) (c1 := κ 0) (ty := .int) hx hb (by rw [hml]; exact hl.1.symm) hown (hts _ hlink) (hts _ hnat) (hts _ hstat) (hts _ hini) hK hP hD hS q0 q1 0 0 he0 he1 rfl rfl rfl (ng _ h1) (ng _ h2) (ng _ h3) (by rw [e1, e3]; omega) (by rw [e2, e3]; omega) (fun _ _ => rfl) hfr hlo d (fun H locs hP hD hS => ?_)
  rw [e1, e2, e3, hu] at hP hD
  rw [hu2]
  exact k ls hl H locs hP hD hS
/-- Math.max, Math.min -/
theorem w_imax (h : Cx Wx l D κ ε own cc mL ret R post Γ) {index : Nat} (hlink : Cond.methodLink own index Lib.Math.max.name ∈ Wall) (hstat : Cond.static Lib.Math.max.name ∈ Wall) (hini : Cond.initialized "java/lang/Math" ∈ Wall) (hcode : Cond.code Lib.Math.max.name Lib.Math.max.code 2 (some .int) ∈ Wall) (hfr : 1 ≤ R.frames) (hlo : (st.map fun v => v.category).sum + 13 ≤ R.locals) (hc : (Wx u).2.1 ≤ R.cells) (hs : (Wx u).2.2 ≤ R.slots) {x y z : Int} (hx0 : -2147483648 ≤ x ∧ x < 2147483648) (hy : -2147483648 ≤ y ∧ y < 2147483648) (hz : (if x < y then y else x) = z) (d : decode cc pc = .ok (.invokestatic index, 3)) (k : WW Γ mL u (pc + 3) L (.int (iI z) :: st)) : WW Γ mL u pc L (.int (iI y) :: .int (iI x) :: st) := by
  obtain ⟨p, e, s, m, args, below, meth, c, A, Q, rfl, hx, hb, hml, hown, hts, hK, hE, hA, hfin⟩ := h
  intro ls hl H locs hP hD hS
  refine va_mmax hx hb (by rw [hml]; exact hl.1.symm) hown (hts _ hlink) (hts _ hstat) (hts _ hini) (hts _ hcode) hfr hlo hc hs d ?_
  have e : (if iI x < iI y then iI y else iI x) = iI z := by
    rw [← hz]
    by_cases q : x < y
    · rw [if_pos ((iI_lt hx0 hy).mpr q), if_pos q]
    · rw [if_neg (fun w => q ((iI_lt hx0 hy).mp w)), if_neg q]
  rw [e]
  exact k ls hl H locs hP hD hS
theorem w_imin (h : Cx Wx l D κ ε own cc mL ret R post Γ) {index : Nat} (hlink : Cond.methodLink own index Lib.Math.min.name ∈ Wall) (hstat : Cond.static Lib.Math.min.name ∈ Wall) (hini : Cond.initialized "java/lang/Math" ∈ Wall) (hcode : Cond.code Lib.Math.min.name Lib.Math.min.code 2 (some .int) ∈ Wall) (hfr : 1 ≤ R.frames) (hlo : (st.map fun v => v.category).sum + 13 ≤ R.locals) (hc : (Wx u).2.1 ≤ R.cells) (hs : (Wx u).2.2 ≤ R.slots) {x y z : Int} (hx0 : -2147483648 ≤ x ∧ x < 2147483648) (hy : -2147483648 ≤ y ∧ y < 2147483648) (hz : (if y < x then y else x) = z) (d : decode cc pc = .ok (.invokestatic index, 3)) (k : WW Γ mL u (pc + 3) L (.int (iI z) :: st)) : WW Γ mL u pc L (.int (iI y) :: .int (iI x) :: st) := by
  obtain ⟨p, e, s, m, args, below, meth, c, A, Q, rfl, hx, hb, hml, hown, hts, hK, hE, hA, hfin⟩ := h
  intro ls hl H locs hP hD hS
  refine va_mmin hx hb (by rw [hml]; exact hl.1.symm) hown (hts _ hlink) (hts _ hstat) (hts _ hini) (hts _ hcode) hfr hlo hc hs d ?_
  have e : (if iI y < iI x then iI y else iI x) = iI z := by
    rw [← hz]
    by_cases q : y < x
    · rw [if_pos ((iI_lt hy hx0).mpr q), if_pos q]
    · rw [if_neg (fun w => q ((iI_lt hy hx0).mp w)), if_neg q]
  rw [e]
  exact k ls hl H locs hP hD hS
theorem w_lmax (h : Cx Wx l D κ ε own cc mL ret R post Γ) {index : Nat} (hlink : Cond.methodLink own index Lib.MathLoose.max_long.x ∈ Wall) (hstat : Cond.static Lib.MathLoose.max_long.x ∈ Wall) (hini : Cond.initialized "java/lang/Math" ∈ Wall) (hcode : Cond.code Lib.MathLoose.max_long.x Lib.MathLoose.max_long.code 4 (some .long) ∈ Wall) (hfr : 1 ≤ R.frames) (hlo : (st.map fun v => v.category).sum + 15 ≤ R.locals) (hc : (Wx u).2.1 ≤ R.cells) (hs : (Wx u).2.2 ≤ R.slots) {x y z : Int} (hx0 : -9223372036854775808 ≤ x ∧ x < 9223372036854775808) (hy : -9223372036854775808 ≤ y ∧ y < 9223372036854775808) (hz : (if y < x then x else y) = z) (d : decode cc pc = .ok (.invokestatic index, 3)) (k : WW Γ mL u (pc + 3) L (.long (lI z) :: st)) : WW Γ mL u pc L (.long (lI y) :: .long (lI x) :: st) := by
  obtain ⟨p, e, s, m, args, below, meth, c, A, Q, rfl, hx, hb, hml, hown, hts, hK, hE, hA, hfin⟩ := h
  intro ls hl H locs hP hD hS
  refine va_mmax_long hx hb (by rw [hml]; exact hl.1.symm) hown (hts _ hlink) (hts _ hstat) (hts _ hini) (hts _ hcode) hfr hlo hc hs d ?_
  have e : (if lI y < lI x then lI x else lI y) = lI z := by
    rw [← hz]
    by_cases q : y < x
    · rw [if_pos ((lI_lt hy hx0).mpr q), if_pos q]
    · rw [if_neg (fun w => q ((lI_lt hy hx0).mp w)), if_neg q]
  rw [e]
  exact k ls hl H locs hP hD hS
/-- POWERS, of the class itself, of a nest mate -/
theorem w_pows (h : Cx Wx l D κ ε own cc mL ret R post Γ) {index : Nat} (hlink : Cond.fieldLink own index "Canticle" "POWERS" "[I" ∈ Wall) (d : decode cc pc = .ok (.getstatic index, 3)) (k : WW Γ mL u (pc + 3) L (.ref ε.1 :: st)) : WW Γ mL u pc L st := by
  obtain ⟨p, e, s, m, args, below, meth, c, A, Q, rfl, hx, hb, hml, hown, hts, hK, hE, hA, hfin⟩ := h
  intro ls hl H locs hP hD hS
  exact va_gets hx hb hE.1.1 hS hown (hts _ hlink) (fun _ h9 => h9) d (k ls hl H locs hP hD hS)
theorem w_powsN (h : Cx Wx l D κ ε own cc mL ret R post Γ) {index : Nat} (hlink : ∀ U : State, Wn U → va_Nw (.fieldLinkNest own index "Canticle" "POWERS" "[I" "Canticle") U) (d : decode cc pc = .ok (.getstatic index, 3)) (k : WW Γ mL u (pc + 3) L (.ref ε.1 :: st)) : WW Γ mL u pc L st := by
  obtain ⟨p, e, s, m, args, below, meth, c, A, Q, rfl, hx, hb, hml, hown, hts, hK, hE, hA, hfin⟩ := h
  intro ls hl H locs hP hD hS
  exact va_getsN hx hb hE.1.1 hS hown (va_Nw.use rfl (hlink s hE.2.2)) (fun _ h9 => h9) d (k ls hl H locs hP hD hS)
theorem w_pow (h : Cx Wx l D κ ε own cc mL ret R post Γ) {i : Int} (hi : 0 ≤ i ∧ i < 5) {z : Int} (hz : pw i.toNat = z) (d : decode cc pc = .ok (.iaload, 1)) (k : WW Γ mL u (pc + 1) L (.int (iI z) :: st)) : WW Γ mL u pc L (.int (iI i) :: .ref ε.1 :: st) := by
  obtain ⟨p, e, s, m, args, below, meth, c, A, Q, rfl, hx, hb, hml, hown, hts, hK, hE, hA, hfin⟩ := h
  intro ls hl H locs hP hD hS
  refine va_ti hx hb hE.2.1 hS (iI_in (n := 5) hi (by omega)) (v := .int (iI z)) ?_ d (k ls hl H locs hP hD hS)
  show Value.int (iI (pw (iI i).toNatClampNeg)) = _
  rw [iI_clamp hi.1 (by omega), hz]

theorem w_callV0 (h : Cx Wx l D κ ε own cc mL ret R post Γ) {y : MethodName} {cy : ByteArray} {mLy : Nat} {rety : Option FieldType} {fr lo mc ms index : Nat} {ps : Option Value → S → Prop} {C : String} {T9 : u_T} {N9 ci b : Nat} {fs : List Value}  (hc : Ct Wx l D κ ε y cy mLy rety fr lo mc ms u [.ref b] ps) (q0 : Nat) (hq : (Wx u).1[q0]? = some (b, .inr (ci, fs))) (hcl : vwCl[ci]? = some (C, T9, N9)) (hG : GoodIn Wall (wsV own index C y (Cond.code y cy mLy rety :: Wall))) (hd : y.cls = C ∧ y.cls ≠ "java/lang/invoke/MethodHandle" ∧ y.cls ≠ "java/lang/invoke/VarHandle" ∧ (parseMethodDescriptor y.desc).map (fun d => d.parameters.length) = some 0) (hR : fr + 1 ≤ R.frames ∧ 8 + (mLy + 11) + lo ≤ R.locals) (hf : (Wx u).2.1 + mc ≤ R.cells ∧ (Wx u).2.2 + ms ≤ R.slots) (hcn : ∀ v u', ps v u' → (Wx u').2.1 = (Wx u).2.1 + mc ∧ (Wx u').2.2 = (Wx u).2.2 + ms) (hW8 : (st.map fun v => v.category).sum ≤ 8) (d : decode cc pc = .ok (.invokevirtual index, 3)) (k : ∀ v u', ps v u' → WW Γ mL u' (pc + 3) L (v.toList ++ st)) : WW Γ mL u pc L (.ref b :: st) := by
  obtain ⟨p, e, s, m, args, below, meth, c, A, Q, rfl, hx, hb, hml, hown, hts, hK, hE, hA, hfin⟩ := h
  intro ls hl H locs hP hD hS
  have hF : ∀ q, va_A (Wx u).1 H.size q → A q := fun q hq => by
    rcases hq with ⟨i, e9, hi⟩ | hq
    · exact hD.2 i (q, e9) hi
    · exact hA q (Nat.le_trans hS.1 hq)
  have hpre : ∀ U : State, U.heap = H → s.WarmedH U.vm → va_Pc ([.ref b]) (PreW D κ ε (Wx u).1 H.size) ([.ref b]).toArray U := fun U hU hW => ⟨rfl, by rw [hU], by rw [hU]; exact hP, va_K.moved hW.alike hK, hD.weaken (fun _ _ _ _ => trivial), by rw [hU]; exact (((hE.kept hS.2.1).narrow hF).warm hW)⟩
  have hrun : va_Run p l e R s m args below meth c H locs (Wx u).2.1 (Wx u).2.2 mc ms (F0 m pc ls (.ref b :: st)) st (QW Wx D κ (va_A (Wx u).1 H.size) ps ([.ref b]).toArray) (va_A (Wx u).1 H.size) := va_runV (As := []) ⟨hx, hb, hml, hown, hts⟩ (hc H.size) (cwV 0 hts hG rfl rfl rfl hd hR) ⟨preW_blind, va_recv hK hP hcl hq, hpre⟩ rfl rfl hl.1 rfl (lv_room hW8) d hf
  intro T hT X
  obtain ⟨v, st₀, t, T', L9, h0, X', hL, e1, e2, ⟨⟨v9, u', hv, hp, hb1, hb2, hb3⟩, hz, hk⟩, stp⟩ := hrun T hT X
  cases hv
  rw [h0] at hz hk
  obtain ⟨i1, i2⟩ := hcn v u' hp
  have hS1 : va_S A s.heap T'.heap (locs ++ L9) := ⟨Nat.le_trans hS.1 (by rw [e1]; exact hz), fun q h1 h2 => by
      rw [e1, hk q (Nat.lt_of_lt_of_le h1 hS.1) (fun z => h2 (hF q z))]
      exact hS.2.1 q h1 h2, fun q hq => by
      rcases List.mem_append.mp hq with h | h
      · exact hS.2.2 q h
      · exact hF _ (hL q h)⟩
  obtain ⟨t2, a1, b1⟩ := k v u' hp ls hl T'.heap (locs ++ L9) (by rw [e1]; exact hb1) (hb3.weaken (fun k q _ h => hF q.1 h)) hS1 T' rfl (by rw [i1, i2]; exact X')
  exact ⟨t2, stp t2 a1, b1⟩

theorem w_callV1 (h : Cx Wx l D κ ε own cc mL ret R post Γ) {y : MethodName} {cy : ByteArray} {mLy : Nat} {rety : Option FieldType} {fr lo mc ms index : Nat} {ps : Option Value → S → Prop} {C : String} {T9 : u_T} {N9 ci b : Nat} {fs : List Value} {x1 : Value}  (hc : Ct Wx l D κ ε y cy mLy rety fr lo mc ms u [.ref b, x1] ps) (q0 : Nat) (hq : (Wx u).1[q0]? = some (b, .inr (ci, fs))) (hcl : vwCl[ci]? = some (C, T9, N9)) (hG : GoodIn Wall (wsV own index C y (Cond.code y cy mLy rety :: Wall))) (hd : y.cls = C ∧ y.cls ≠ "java/lang/invoke/MethodHandle" ∧ y.cls ≠ "java/lang/invoke/VarHandle" ∧ (parseMethodDescriptor y.desc).map (fun d => d.parameters.length) = some 1) (hR : fr + 1 ≤ R.frames ∧ 8 + (mLy + 11) + lo ≤ R.locals) (hf : (Wx u).2.1 + mc ≤ R.cells ∧ (Wx u).2.2 + ms ≤ R.slots) (hcn : ∀ v u', ps v u' → (Wx u').2.1 = (Wx u).2.1 + mc ∧ (Wx u').2.2 = (Wx u).2.2 + ms) (hW8 : (st.map fun v => v.category).sum ≤ 8) (d : decode cc pc = .ok (.invokevirtual index, 3)) (k : ∀ v u', ps v u' → WW Γ mL u' (pc + 3) L (v.toList ++ st)) : WW Γ mL u pc L (x1 :: .ref b :: st) := by
  obtain ⟨p, e, s, m, args, below, meth, c, A, Q, rfl, hx, hb, hml, hown, hts, hK, hE, hA, hfin⟩ := h
  intro ls hl H locs hP hD hS
  have hF : ∀ q, va_A (Wx u).1 H.size q → A q := fun q hq => by
    rcases hq with ⟨i, e9, hi⟩ | hq
    · exact hD.2 i (q, e9) hi
    · exact hA q (Nat.le_trans hS.1 hq)
  have hpre : ∀ U : State, U.heap = H → s.WarmedH U.vm → va_Pc ([.ref b, x1]) (PreW D κ ε (Wx u).1 H.size) ([.ref b, x1]).toArray U := fun U hU hW => ⟨rfl, by rw [hU], by rw [hU]; exact hP, va_K.moved hW.alike hK, hD.weaken (fun _ _ _ _ => trivial), by rw [hU]; exact (((hE.kept hS.2.1).narrow hF).warm hW)⟩
  have hrun : va_Run p l e R s m args below meth c H locs (Wx u).2.1 (Wx u).2.2 mc ms (F0 m pc ls (x1 :: .ref b :: st)) st (QW Wx D κ (va_A (Wx u).1 H.size) ps ([.ref b, x1]).toArray) (va_A (Wx u).1 H.size) := va_runV (As := [x1]) ⟨hx, hb, hml, hown, hts⟩ (hc H.size) (cwV 1 hts hG rfl rfl rfl hd hR) ⟨preW_blind, va_recv hK hP hcl hq, hpre⟩ rfl rfl hl.1 rfl (lv_room hW8) d hf
  intro T hT X
  obtain ⟨v, st₀, t, T', L9, h0, X', hL, e1, e2, ⟨⟨v9, u', hv, hp, hb1, hb2, hb3⟩, hz, hk⟩, stp⟩ := hrun T hT X
  cases hv
  rw [h0] at hz hk
  obtain ⟨i1, i2⟩ := hcn v u' hp
  have hS1 : va_S A s.heap T'.heap (locs ++ L9) := ⟨Nat.le_trans hS.1 (by rw [e1]; exact hz), fun q h1 h2 => by
      rw [e1, hk q (Nat.lt_of_lt_of_le h1 hS.1) (fun z => h2 (hF q z))]
      exact hS.2.1 q h1 h2, fun q hq => by
      rcases List.mem_append.mp hq with h | h
      · exact hS.2.2 q h
      · exact hF _ (hL q h)⟩
  obtain ⟨t2, a1, b1⟩ := k v u' hp ls hl T'.heap (locs ++ L9) (by rw [e1]; exact hb1) (hb3.weaken (fun k q _ h => hF q.1 h)) hS1 T' rfl (by rw [i1, i2]; exact X')
  exact ⟨t2, stp t2 a1, b1⟩

theorem w_callV2 (h : Cx Wx l D κ ε own cc mL ret R post Γ) {y : MethodName} {cy : ByteArray} {mLy : Nat} {rety : Option FieldType} {fr lo mc ms index : Nat} {ps : Option Value → S → Prop} {C : String} {T9 : u_T} {N9 ci b : Nat} {fs : List Value} {x1 x2 : Value}  (hc : Ct Wx l D κ ε y cy mLy rety fr lo mc ms u [.ref b, x1, x2] ps) (q0 : Nat) (hq : (Wx u).1[q0]? = some (b, .inr (ci, fs))) (hcl : vwCl[ci]? = some (C, T9, N9)) (hG : GoodIn Wall (wsV own index C y (Cond.code y cy mLy rety :: Wall))) (hd : y.cls = C ∧ y.cls ≠ "java/lang/invoke/MethodHandle" ∧ y.cls ≠ "java/lang/invoke/VarHandle" ∧ (parseMethodDescriptor y.desc).map (fun d => d.parameters.length) = some 2) (hR : fr + 1 ≤ R.frames ∧ 8 + (mLy + 11) + lo ≤ R.locals) (hf : (Wx u).2.1 + mc ≤ R.cells ∧ (Wx u).2.2 + ms ≤ R.slots) (hcn : ∀ v u', ps v u' → (Wx u').2.1 = (Wx u).2.1 + mc ∧ (Wx u').2.2 = (Wx u).2.2 + ms) (hW8 : (st.map fun v => v.category).sum ≤ 8) (d : decode cc pc = .ok (.invokevirtual index, 3)) (k : ∀ v u', ps v u' → WW Γ mL u' (pc + 3) L (v.toList ++ st)) : WW Γ mL u pc L (x2 :: x1 :: .ref b :: st) := by
  obtain ⟨p, e, s, m, args, below, meth, c, A, Q, rfl, hx, hb, hml, hown, hts, hK, hE, hA, hfin⟩ := h
  intro ls hl H locs hP hD hS
  have hF : ∀ q, va_A (Wx u).1 H.size q → A q := fun q hq => by
    rcases hq with ⟨i, e9, hi⟩ | hq
    · exact hD.2 i (q, e9) hi
    · exact hA q (Nat.le_trans hS.1 hq)
  have hpre : ∀ U : State, U.heap = H → s.WarmedH U.vm → va_Pc ([.ref b, x1, x2]) (PreW D κ ε (Wx u).1 H.size) ([.ref b, x1, x2]).toArray U := fun U hU hW => ⟨rfl, by rw [hU], by rw [hU]; exact hP, va_K.moved hW.alike hK, hD.weaken (fun _ _ _ _ => trivial), by rw [hU]; exact (((hE.kept hS.2.1).narrow hF).warm hW)⟩
  have hrun : va_Run p l e R s m args below meth c H locs (Wx u).2.1 (Wx u).2.2 mc ms (F0 m pc ls (x2 :: x1 :: .ref b :: st)) st (QW Wx D κ (va_A (Wx u).1 H.size) ps ([.ref b, x1, x2]).toArray) (va_A (Wx u).1 H.size) := va_runV (As := [x1, x2]) ⟨hx, hb, hml, hown, hts⟩ (hc H.size) (cwV 2 hts hG rfl rfl rfl hd hR) ⟨preW_blind, va_recv hK hP hcl hq, hpre⟩ rfl rfl hl.1 rfl (lv_room hW8) d hf
  intro T hT X
  obtain ⟨v, st₀, t, T', L9, h0, X', hL, e1, e2, ⟨⟨v9, u', hv, hp, hb1, hb2, hb3⟩, hz, hk⟩, stp⟩ := hrun T hT X
  cases hv
  rw [h0] at hz hk
  obtain ⟨i1, i2⟩ := hcn v u' hp
  have hS1 : va_S A s.heap T'.heap (locs ++ L9) := ⟨Nat.le_trans hS.1 (by rw [e1]; exact hz), fun q h1 h2 => by
      rw [e1, hk q (Nat.lt_of_lt_of_le h1 hS.1) (fun z => h2 (hF q z))]
      exact hS.2.1 q h1 h2, fun q hq => by
      rcases List.mem_append.mp hq with h | h
      · exact hS.2.2 q h
      · exact hF _ (hL q h)⟩
  obtain ⟨t2, a1, b1⟩ := k v u' hp ls hl T'.heap (locs ++ L9) (by rw [e1]; exact hb1) (hb3.weaken (fun k q _ h => hF q.1 h)) hS1 T' rfl (by rw [i1, i2]; exact X')
  exact ⟨t2, stp t2 a1, b1⟩

theorem w_callV3 (h : Cx Wx l D κ ε own cc mL ret R post Γ) {y : MethodName} {cy : ByteArray} {mLy : Nat} {rety : Option FieldType} {fr lo mc ms index : Nat} {ps : Option Value → S → Prop} {C : String} {T9 : u_T} {N9 ci b : Nat} {fs : List Value} {x1 x2 x3 : Value}  (hc : Ct Wx l D κ ε y cy mLy rety fr lo mc ms u [.ref b, x1, x2, x3] ps) (q0 : Nat) (hq : (Wx u).1[q0]? = some (b, .inr (ci, fs))) (hcl : vwCl[ci]? = some (C, T9, N9)) (hG : GoodIn Wall (wsV own index C y (Cond.code y cy mLy rety :: Wall))) (hd : y.cls = C ∧ y.cls ≠ "java/lang/invoke/MethodHandle" ∧ y.cls ≠ "java/lang/invoke/VarHandle" ∧ (parseMethodDescriptor y.desc).map (fun d => d.parameters.length) = some 3) (hR : fr + 1 ≤ R.frames ∧ 8 + (mLy + 11) + lo ≤ R.locals) (hf : (Wx u).2.1 + mc ≤ R.cells ∧ (Wx u).2.2 + ms ≤ R.slots) (hcn : ∀ v u', ps v u' → (Wx u').2.1 = (Wx u).2.1 + mc ∧ (Wx u').2.2 = (Wx u).2.2 + ms) (hW8 : (st.map fun v => v.category).sum ≤ 8) (d : decode cc pc = .ok (.invokevirtual index, 3)) (k : ∀ v u', ps v u' → WW Γ mL u' (pc + 3) L (v.toList ++ st)) : WW Γ mL u pc L (x3 :: x2 :: x1 :: .ref b :: st) := by
  obtain ⟨p, e, s, m, args, below, meth, c, A, Q, rfl, hx, hb, hml, hown, hts, hK, hE, hA, hfin⟩ := h
  intro ls hl H locs hP hD hS
  have hF : ∀ q, va_A (Wx u).1 H.size q → A q := fun q hq => by
    rcases hq with ⟨i, e9, hi⟩ | hq
    · exact hD.2 i (q, e9) hi
    · exact hA q (Nat.le_trans hS.1 hq)
  have hpre : ∀ U : State, U.heap = H → s.WarmedH U.vm → va_Pc ([.ref b, x1, x2, x3]) (PreW D κ ε (Wx u).1 H.size) ([.ref b, x1, x2, x3]).toArray U := fun U hU hW => ⟨rfl, by rw [hU], by rw [hU]; exact hP, va_K.moved hW.alike hK, hD.weaken (fun _ _ _ _ => trivial), by rw [hU]; exact (((hE.kept hS.2.1).narrow hF).warm hW)⟩
  have hrun : va_Run p l e R s m args below meth c H locs (Wx u).2.1 (Wx u).2.2 mc ms (F0 m pc ls (x3 :: x2 :: x1 :: .ref b :: st)) st (QW Wx D κ (va_A (Wx u).1 H.size) ps ([.ref b, x1, x2, x3]).toArray) (va_A (Wx u).1 H.size) := va_runV (As := [x1, x2, x3]) ⟨hx, hb, hml, hown, hts⟩ (hc H.size) (cwV 3 hts hG rfl rfl rfl hd hR) ⟨preW_blind, va_recv hK hP hcl hq, hpre⟩ rfl rfl hl.1 rfl (lv_room hW8) d hf
  intro T hT X
  obtain ⟨v, st₀, t, T', L9, h0, X', hL, e1, e2, ⟨⟨v9, u', hv, hp, hb1, hb2, hb3⟩, hz, hk⟩, stp⟩ := hrun T hT X
  cases hv
  rw [h0] at hz hk
  obtain ⟨i1, i2⟩ := hcn v u' hp
  have hS1 : va_S A s.heap T'.heap (locs ++ L9) := ⟨Nat.le_trans hS.1 (by rw [e1]; exact hz), fun q h1 h2 => by
      rw [e1, hk q (Nat.lt_of_lt_of_le h1 hS.1) (fun z => h2 (hF q z))]
      exact hS.2.1 q h1 h2, fun q hq => by
      rcases List.mem_append.mp hq with h | h
      · exact hS.2.2 q h
      · exact hF _ (hL q h)⟩
  obtain ⟨t2, a1, b1⟩ := k v u' hp ls hl T'.heap (locs ++ L9) (by rw [e1]; exact hb1) (hb3.weaken (fun k q _ h => hF q.1 h)) hS1 T' rfl (by rw [i1, i2]; exact X')
  exact ⟨t2, stp t2 a1, b1⟩

theorem w_callS1 (h : Cx Wx l D κ ε own cc mL ret R post Γ) {y : MethodName} {cy : ByteArray} {mLy : Nat} {rety : Option FieldType} {fr lo mc ms index : Nat} {ps : Option Value → S → Prop} {x1 : Value} (hc : Ct Wx l D κ ε y cy mLy rety fr lo mc ms u [x1] ps) (hG : GoodIn Wall (va_wsS own index y (Cond.code y cy mLy rety :: Wall))) (hd : y.cls ≠ "java/lang/invoke/MethodHandle" ∧ y.cls ≠ "java/lang/invoke/VarHandle" ∧ (parseMethodDescriptor y.desc).map (fun d => d.parameters.length) = some 1) (hR : fr + 1 ≤ R.frames ∧ 8 + (mLy + 11) + lo ≤ R.locals) (hf : (Wx u).2.1 + mc ≤ R.cells ∧ (Wx u).2.2 + ms ≤ R.slots) (hcn : ∀ v u', ps v u' → (Wx u').2.1 = (Wx u).2.1 + mc ∧ (Wx u').2.2 = (Wx u).2.2 + ms) (hW8 : (st.map fun v => v.category).sum ≤ 8) (d : decode cc pc = .ok (.invokestatic index, 3)) (k : ∀ v u', ps v u' → WW Γ mL u' (pc + 3) L (v.toList ++ st)) : WW Γ mL u pc L (x1 :: st) := by
  obtain ⟨p, e, s, m, args, below, meth, c, A, Q, rfl, hx, hb, hml, hown, hts, hK, hE, hA, hfin⟩ := h
  intro ls hl H locs hP hD hS
  have hF : ∀ q, va_A (Wx u).1 H.size q → A q := fun q hq => by
    rcases hq with ⟨i, e9, hi⟩ | hq
    · exact hD.2 i (q, e9) hi
    · exact hA q (Nat.le_trans hS.1 hq)
  have hpre : ∀ U : State, U.heap = H → s.WarmedH U.vm → va_Pc ([x1]) (PreW D κ ε (Wx u).1 H.size) ([x1]).toArray U := fun U hU hW => ⟨rfl, by rw [hU], by rw [hU]; exact hP, va_K.moved hW.alike hK, hD.weaken (fun _ _ _ _ => trivial), by rw [hU]; exact (((hE.kept hS.2.1).narrow hF).warm hW)⟩
  have hrun : va_Run p l e R s m args below meth c H locs (Wx u).2.1 (Wx u).2.2 mc ms (F0 m pc ls (x1 :: st)) st (QW Wx D κ (va_A (Wx u).1 H.size) ps ([x1]).toArray) (va_A (Wx u).1 H.size) := va_runS (As := [x1]) ⟨hx, hb, hml, hown, hts⟩ (hc H.size) (va_cwS 1 hts hG rfl rfl rfl hd hR) ⟨preW_blind, hpre⟩ rfl rfl hl.1 rfl (lv_room hW8) d hf
  intro T hT X
  obtain ⟨v, st₀, t, T', L9, h0, X', hL, e1, e2, ⟨⟨v9, u', hv, hp, hb1, hb2, hb3⟩, hz, hk⟩, stp⟩ := hrun T hT X
  cases hv
  rw [h0] at hz hk
  obtain ⟨i1, i2⟩ := hcn v u' hp
  have hS1 : va_S A s.heap T'.heap (locs ++ L9) := ⟨Nat.le_trans hS.1 (by rw [e1]; exact hz), fun q h1 h2 => by
      rw [e1, hk q (Nat.lt_of_lt_of_le h1 hS.1) (fun z => h2 (hF q z))]
      exact hS.2.1 q h1 h2, fun q hq => by
      rcases List.mem_append.mp hq with h | h
      · exact hS.2.2 q h
      · exact hF _ (hL q h)⟩
  obtain ⟨t2, a1, b1⟩ := k v u' hp ls hl T'.heap (locs ++ L9) (by rw [e1]; exact hb1) (hb3.weaken (fun k q _ h => hF q.1 h)) hS1 T' rfl (by rw [i1, i2]; exact X')
  exact ⟨t2, stp t2 a1, b1⟩

theorem w_callS2 (h : Cx Wx l D κ ε own cc mL ret R post Γ) {y : MethodName} {cy : ByteArray} {mLy : Nat} {rety : Option FieldType} {fr lo mc ms index : Nat} {ps : Option Value → S → Prop} {x1 x2 : Value} (hc : Ct Wx l D κ ε y cy mLy rety fr lo mc ms u [x1, x2] ps) (hG : GoodIn Wall (va_wsS own index y (Cond.code y cy mLy rety :: Wall))) (hd : y.cls ≠ "java/lang/invoke/MethodHandle" ∧ y.cls ≠ "java/lang/invoke/VarHandle" ∧ (parseMethodDescriptor y.desc).map (fun d => d.parameters.length) = some 2) (hR : fr + 1 ≤ R.frames ∧ 8 + (mLy + 11) + lo ≤ R.locals) (hf : (Wx u).2.1 + mc ≤ R.cells ∧ (Wx u).2.2 + ms ≤ R.slots) (hcn : ∀ v u', ps v u' → (Wx u').2.1 = (Wx u).2.1 + mc ∧ (Wx u').2.2 = (Wx u).2.2 + ms) (hW8 : (st.map fun v => v.category).sum ≤ 8) (d : decode cc pc = .ok (.invokestatic index, 3)) (k : ∀ v u', ps v u' → WW Γ mL u' (pc + 3) L (v.toList ++ st)) : WW Γ mL u pc L (x2 :: x1 :: st) := by
  obtain ⟨p, e, s, m, args, below, meth, c, A, Q, rfl, hx, hb, hml, hown, hts, hK, hE, hA, hfin⟩ := h
  intro ls hl H locs hP hD hS
  have hF : ∀ q, va_A (Wx u).1 H.size q → A q := fun q hq => by
    rcases hq with ⟨i, e9, hi⟩ | hq
    · exact hD.2 i (q, e9) hi
    · exact hA q (Nat.le_trans hS.1 hq)
  have hpre : ∀ U : State, U.heap = H → s.WarmedH U.vm → va_Pc ([x1, x2]) (PreW D κ ε (Wx u).1 H.size) ([x1, x2]).toArray U := fun U hU hW => ⟨rfl, by rw [hU], by rw [hU]; exact hP, va_K.moved hW.alike hK, hD.weaken (fun _ _ _ _ => trivial), by rw [hU]; exact (((hE.kept hS.2.1).narrow hF).warm hW)⟩
  have hrun : va_Run p l e R s m args below meth c H locs (Wx u).2.1 (Wx u).2.2 mc ms (F0 m pc ls (x2 :: x1 :: st)) st (QW Wx D κ (va_A (Wx u).1 H.size) ps ([x1, x2]).toArray) (va_A (Wx u).1 H.size) := va_runS (As := [x1, x2]) ⟨hx, hb, hml, hown, hts⟩ (hc H.size) (va_cwS 2 hts hG rfl rfl rfl hd hR) ⟨preW_blind, hpre⟩ rfl rfl hl.1 rfl (lv_room hW8) d hf
  intro T hT X
  obtain ⟨v, st₀, t, T', L9, h0, X', hL, e1, e2, ⟨⟨v9, u', hv, hp, hb1, hb2, hb3⟩, hz, hk⟩, stp⟩ := hrun T hT X
  cases hv
  rw [h0] at hz hk
  obtain ⟨i1, i2⟩ := hcn v u' hp
  have hS1 : va_S A s.heap T'.heap (locs ++ L9) := ⟨Nat.le_trans hS.1 (by rw [e1]; exact hz), fun q h1 h2 => by
      rw [e1, hk q (Nat.lt_of_lt_of_le h1 hS.1) (fun z => h2 (hF q z))]
      exact hS.2.1 q h1 h2, fun q hq => by
      rcases List.mem_append.mp hq with h | h
      · exact hS.2.2 q h
      · exact hF _ (hL q h)⟩
  obtain ⟨t2, a1, b1⟩ := k v u' hp ls hl T'.heap (locs ++ L9) (by rw [e1]; exact hb1) (hb3.weaken (fun k q _ h => hF q.1 h)) hS1 T' rfl (by rw [i1, i2]; exact X')
  exact ⟨t2, stp t2 a1, b1⟩

theorem w_callS3 (h : Cx Wx l D κ ε own cc mL ret R post Γ) {y : MethodName} {cy : ByteArray} {mLy : Nat} {rety : Option FieldType} {fr lo mc ms index : Nat} {ps : Option Value → S → Prop} {x1 x2 x3 : Value} (hc : Ct Wx l D κ ε y cy mLy rety fr lo mc ms u [x1, x2, x3] ps) (hG : GoodIn Wall (va_wsS own index y (Cond.code y cy mLy rety :: Wall))) (hd : y.cls ≠ "java/lang/invoke/MethodHandle" ∧ y.cls ≠ "java/lang/invoke/VarHandle" ∧ (parseMethodDescriptor y.desc).map (fun d => d.parameters.length) = some 3) (hR : fr + 1 ≤ R.frames ∧ 8 + (mLy + 11) + lo ≤ R.locals) (hf : (Wx u).2.1 + mc ≤ R.cells ∧ (Wx u).2.2 + ms ≤ R.slots) (hcn : ∀ v u', ps v u' → (Wx u').2.1 = (Wx u).2.1 + mc ∧ (Wx u').2.2 = (Wx u).2.2 + ms) (hW8 : (st.map fun v => v.category).sum ≤ 8) (d : decode cc pc = .ok (.invokestatic index, 3)) (k : ∀ v u', ps v u' → WW Γ mL u' (pc + 3) L (v.toList ++ st)) : WW Γ mL u pc L (x3 :: x2 :: x1 :: st) := by
  obtain ⟨p, e, s, m, args, below, meth, c, A, Q, rfl, hx, hb, hml, hown, hts, hK, hE, hA, hfin⟩ := h
  intro ls hl H locs hP hD hS
  have hF : ∀ q, va_A (Wx u).1 H.size q → A q := fun q hq => by
    rcases hq with ⟨i, e9, hi⟩ | hq
    · exact hD.2 i (q, e9) hi
    · exact hA q (Nat.le_trans hS.1 hq)
  have hpre : ∀ U : State, U.heap = H → s.WarmedH U.vm → va_Pc ([x1, x2, x3]) (PreW D κ ε (Wx u).1 H.size) ([x1, x2, x3]).toArray U := fun U hU hW => ⟨rfl, by rw [hU], by rw [hU]; exact hP, va_K.moved hW.alike hK, hD.weaken (fun _ _ _ _ => trivial), by rw [hU]; exact (((hE.kept hS.2.1).narrow hF).warm hW)⟩
  have hrun : va_Run p l e R s m args below meth c H locs (Wx u).2.1 (Wx u).2.2 mc ms (F0 m pc ls (x3 :: x2 :: x1 :: st)) st (QW Wx D κ (va_A (Wx u).1 H.size) ps ([x1, x2, x3]).toArray) (va_A (Wx u).1 H.size) := va_runS (As := [x1, x2, x3]) ⟨hx, hb, hml, hown, hts⟩ (hc H.size) (va_cwS 3 hts hG rfl rfl rfl hd hR) ⟨preW_blind, hpre⟩ rfl rfl hl.1 rfl (lv_room hW8) d hf
  intro T hT X
  obtain ⟨v, st₀, t, T', L9, h0, X', hL, e1, e2, ⟨⟨v9, u', hv, hp, hb1, hb2, hb3⟩, hz, hk⟩, stp⟩ := hrun T hT X
  cases hv
  rw [h0] at hz hk
  obtain ⟨i1, i2⟩ := hcn v u' hp
  have hS1 : va_S A s.heap T'.heap (locs ++ L9) := ⟨Nat.le_trans hS.1 (by rw [e1]; exact hz), fun q h1 h2 => by
      rw [e1, hk q (Nat.lt_of_lt_of_le h1 hS.1) (fun z => h2 (hF q z))]
      exact hS.2.1 q h1 h2, fun q hq => by
      rcases List.mem_append.mp hq with h | h
      · exact hS.2.2 q h
      · exact hF _ (hL q h)⟩
  obtain ⟨t2, a1, b1⟩ := k v u' hp ls hl T'.heap (locs ++ L9) (by rw [e1]; exact hb1) (hb3.weaken (fun k q _ h => hF q.1 h)) hS1 T' rfl (by rw [i1, i2]; exact X')
  exact ⟨t2, stp t2 a1, b1⟩

theorem w_callSN1 (h : Cx Wx l D κ ε own cc mL ret R post Γ) {y : MethodName} {cy : ByteArray} {mLy : Nat} {rety : Option FieldType} {fr lo mc ms index : Nat} {ps : Option Value → S → Prop} {x1 : Value} (hc : Ct Wx l D κ ε y cy mLy rety fr lo mc ms u [x1] ps) {host : String} (hG : GoodIn Wall (Cond.code y cy mLy rety :: Wall)) (hN : ∀ U : State, Wn U → va_Nw (.methodLinkNest own index y host) U) (hini : Cond.initialized y.cls ∈ Wall) (hstat : Cond.static y ∈ Wall) (hd : y.cls ≠ "java/lang/invoke/MethodHandle" ∧ y.cls ≠ "java/lang/invoke/VarHandle" ∧ (parseMethodDescriptor y.desc).map (fun d => d.parameters.length) = some 1) (hR : fr + 1 ≤ R.frames ∧ 8 + (mLy + 11) + lo ≤ R.locals) (hf : (Wx u).2.1 + mc ≤ R.cells ∧ (Wx u).2.2 + ms ≤ R.slots) (hcn : ∀ v u', ps v u' → (Wx u').2.1 = (Wx u).2.1 + mc ∧ (Wx u').2.2 = (Wx u).2.2 + ms) (hW8 : (st.map fun v => v.category).sum ≤ 8) (d : decode cc pc = .ok (.invokestatic index, 3)) (k : ∀ v u', ps v u' → WW Γ mL u' (pc + 3) L (v.toList ++ st)) : WW Γ mL u pc L (x1 :: st) := by
  obtain ⟨p, e, s, m, args, below, meth, c, A, Q, rfl, hx, hb, hml, hown, hts, hK, hE, hA, hfin⟩ := h
  intro ls hl H locs hP hD hS
  have hF : ∀ q, va_A (Wx u).1 H.size q → A q := fun q hq => by
    rcases hq with ⟨i, e9, hi⟩ | hq
    · exact hD.2 i (q, e9) hi
    · exact hA q (Nat.le_trans hS.1 hq)
  have hpre : ∀ U : State, U.heap = H → s.WarmedH U.vm → va_Pc ([x1]) (PreW D κ ε (Wx u).1 H.size) ([x1]).toArray U := fun U hU hW => ⟨rfl, by rw [hU], by rw [hU]; exact hP, va_K.moved hW.alike hK, hD.weaken (fun _ _ _ _ => trivial), by rw [hU]; exact (((hE.kept hS.2.1).narrow hF).warm hW)⟩
  have hrun : va_Run p l e R s m args below meth c H locs (Wx u).2.1 (Wx u).2.2 mc ms (F0 m pc ls (x1 :: st)) st (QW Wx D κ (va_A (Wx u).1 H.size) ps ([x1]).toArray) (va_A (Wx u).1 H.size) := va_runSN (As := [x1]) ⟨hx, hb, hml, hown, hts⟩ (hc H.size) ⟨va_cnB 1 hts hG rfl rfl rfl (hN s hE.2.2) (hts _ hini) hd hR, hts _ hstat, trivial⟩ ⟨preW_blind, hpre⟩ rfl rfl hl.1 rfl (lv_room hW8) d hf
  intro T hT X
  obtain ⟨v, st₀, t, T', L9, h0, X', hL, e1, e2, ⟨⟨v9, u', hv, hp, hb1, hb2, hb3⟩, hz, hk⟩, stp⟩ := hrun T hT X
  cases hv
  rw [h0] at hz hk
  obtain ⟨i1, i2⟩ := hcn v u' hp
  have hS1 : va_S A s.heap T'.heap (locs ++ L9) := ⟨Nat.le_trans hS.1 (by rw [e1]; exact hz), fun q h1 h2 => by
      rw [e1, hk q (Nat.lt_of_lt_of_le h1 hS.1) (fun z => h2 (hF q z))]
      exact hS.2.1 q h1 h2, fun q hq => by
      rcases List.mem_append.mp hq with h | h
      · exact hS.2.2 q h
      · exact hF _ (hL q h)⟩
  obtain ⟨t2, a1, b1⟩ := k v u' hp ls hl T'.heap (locs ++ L9) (by rw [e1]; exact hb1) (hb3.weaken (fun k q _ h => hF q.1 h)) hS1 T' rfl (by rw [i1, i2]; exact X')
  exact ⟨t2, stp t2 a1, b1⟩

end ROWS
theorem gdV {own C : String} {index : Nat} {y : MethodName} {cw : Cond} (h1 : Cond.methodLink own index y ∈ Wall) (h2 : Cond.instanceMethod y ∈ Wall) (h3 : Cond.selects C y y ∈ Wall) (h4 : Cond.initialized C ∈ Wall) (h5 : cw ∈ Wall) : GoodIn Wall (wsV own index C y (cw :: Wall)) := by
  intro w hw
  have m : w ∈ Wall := by
    unfold wsV at hw
    simp only [List.cons_append, List.nil_append, List.mem_cons] at hw
    rcases hw with rfl | rfl | rfl | rfl | rfl | hw <;> assumption
  exact ⟨m, Wall_good w m⟩
theorem gdS {own : String} {index : Nat} {y : MethodName} {cw : Cond} (h1 : Cond.methodLink own index y ∈ Wall) (h2 : Cond.static y ∈ Wall) (h4 : Cond.initialized y.cls ∈ Wall) (h5 : cw ∈ Wall) : GoodIn Wall (va_wsS own index y (cw :: Wall)) := by
  intro w hw
  have m : w ∈ Wall := by
    unfold va_wsS at hw
    simp only [List.cons_append, List.nil_append, List.mem_cons] at hw
    rcases hw with rfl | rfl | rfl | rfl | hw <;> assumption
  exact ⟨m, Wall_good w m⟩
theorem gdN {cw : Cond} (h5 : cw ∈ Wall) : GoodIn Wall (cw :: Wall) := by
  intro w hw
  have m : w ∈ Wall := by
    rcases List.mem_cons.mp hw with rfl | hw <;> assumption
  exact ⟨m, Wall_good w m⟩
/-- a contract out of its walk -/
theorem Ct.of {S : Type} {Wx : S → va_W × Nat × Nat} {l : Launch} {D : va_G} {κ : Nat → Nat} {ε : EE} {y : MethodName} {own : String} {cc : ByteArray} {mL : Nat} {ret : Option FieldType} {fr lo mc ms : Nat} {u : S} {av : List Value} {post : Option Value → S → Prop} (hown9 : y.cls = own) (hy : plainName y.cls = true) (hav : (lg_sl av).length ≤ mL) (hu0 : (Wx u).2 = (0, 0))
    (body : ∀ Γ, Cx Wx l D κ ε own cc mL ret { frames := fr, cells := mc, slots := ms, locals := lo } post Γ → WW Γ mL u 0 (lv_args 0 av) []) : Ct Wx l D κ ε y cc mL ret fr lo mc ms u av post := by
  subst hown9
  intro sz
  refine Met.ofW (cc := cc) (maxL := mL) (ret := ret) hy rfl ?_
  intro p e s m args below meth c s₁ B hml hv
  obtain ⟨rfl, hsz, hP, hK, hD0, hE⟩ := hv
  have hx := B.exec
  have hb := B.bytes
  have hr := B.returns
  have hts0 := atoms_spec (ws := Cond.code y cc mL ret :: Wall) B.pre
  have hts : ∀ w ∈ Wall, w.before _ s = true := fun w h => hts0 w (List.mem_cons_of_mem _ h)
  have hown : s.vm.findClass y.cls = some m.cls := findClass_of_methodNamed B.named
  have hlocks := B.notSynchronized
  subst hsz
  have hD := hD0.self (sz := s.heap.size)
  have hS : va_S (va_A (Wx u).1 s.heap.size) s.heap s.heap [] := va_S.rf
  have hl := lv_entry av (n := mL) hav
  rw [lg_entry_eq]
  have hfin : ∀ (u9 : S) (pc : Nat) (ls : Array Slot) (v : Option Value) (H : Heap) (locs : List Loc), retOk cc pc ret v → post v u9 → (Wx u9).2.1 ≤ mc → (Wx u9).2.2 ≤ ms → va_P D vwCl (Wx u9).1 H → va_D (va_A (Wx u).1 s.heap.size) (Wx u9).1 → va_S (va_A (Wx u).1 s.heap.size) s.heap H locs → W p l e { frames := fr, cells := mc, slots := ms, locals := lo } s m av.toArray below meth c H locs (Wx u9).2.1 (Wx u9).2.2 (MQ below (QW Wx D κ (va_A (Wx u).1 s.heap.size) post) av.toArray s mc ms (va_A (Wx u).1 s.heap.size)) (F0 m pc ls v.toList) := by
    intro u9 pc ls v H locs hret hp h1 h2 hP hD hS
    refine W.widen h1 h2 ?_
    have hq : ∀ t : State, t.heap = H → s.WarmedH t.vm → QW Wx D κ (va_A (Wx u).1 s.heap.size) post av.toArray s (.returned v) t := fun t ht hW => ⟨⟨v, u9, rfl, hp, by rw [ht]; exact hP, va_K.moved hW.alike hK, hD⟩, hS.F ht⟩
    rcases hret with ⟨rfl, hn, hdg⟩ | ⟨x, ty, rfl, hn, hnar, hdg⟩ | ⟨x, rfl, hn, hdg⟩ | ⟨x, rfl, hn, hdg⟩ | ⟨x, rt, rfl, hn, hrt, hdg⟩
    · exact W.vret hx hb (hr.trans hn) hq hS.2.2 hdg
    · exact W.zret hx hb (hr.trans hn) hnar hq hS.2.2 hdg
    · exact W.lret hx hb (hr.trans hn) hq hS.2.2 hdg
    · exact W.dret hx hb (hr.trans hn) hq hS.2.2 hdg
    · exact W.aret hx hb (hr.trans hn) hrt (Or.inr ⟨x, rfl⟩) hq hS.2.2 hdg
  have h := body _ ⟨p, e, s, m, av.toArray, below, meth, c, va_A (Wx u).1 s.heap.size, _, rfl, hx, hb, hml, hown, hts, hK, hE, fun q hq => Or.inr hq, hfin⟩ _ hl s.heap [] hP hD hS
  rw [hu0] at h
  exact h

