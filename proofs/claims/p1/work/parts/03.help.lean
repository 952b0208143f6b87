/-! rows of our own: the array classes, what a start holds beside the world, a contract's start, the join behind a call -/
/-- the array classes that the worlds use, by their places -/
abbrev tys (κ : Nat → ClassId) : List (ClassId × FieldType) := [(κ 0, .int), (κ 1, .boolean), (κ 2, .long), (κ 3, .object "Canticle$Tally"), (κ 4, .array .int), (κ 5, .object "java/lang/Object")]
/-- POWERS -/
def pw (j : Nat) : Int32 := [1, 14, 196, 2744, 38416].getD j 0
/-- the constant texts of the class: the pool's place, the text, the place of its address in ε -/
def stL : List (Nat × String × Nat) := [(70, "there are 12 WORDS", 10), (80, "the order is not 1 to 4", 11), (92, "there is no such WORD", 12), (95, "the SENTENCE has 12 WORDS", 13), (101, "times is not 1 to 100", 14), (103, "there is no WORD", 15), (116, "there would be more than 800 ENTRIES", 16), (122, "an ENTRY has less than would be taken", 17), (124, "there is no such place", 18), (129, "the order is not 1 to the ORDER", 19), (138, "there is no such ENTRY, or place", 20), (147, "there is no such ENTRY", 21), (152, "the order is not 1 to the ORDER, or what not 0 or 1", 22), (158, "the order is not 2 to the ORDER, or least not 1 to 1000", 23), (164, "the order is not 2 to the ORDER, or parts not 1 to UNIT", 24), (173, "the way is not 0 to 4, or the number not 1 to 1000", 25), (181, "there is no such WORD, and it is not V", 26), (189, "there is no such rank", 27), (200, "the length is below the SENTENCE's, or above 12", 28), (215, "the luck is not 0 to 9999", 29), (220, "there is no such code, or a does not fit it", 30), (223, "there are 12 STEPS", 31), (227, "there is no WORD, or no STEP", 32)]
def Wd (ε : Nat → Nat) (U : State) : Prop :=
  (∀ q ∈ stL, vk_R "Canticle" q.1 q.2.1 (ε q.2.2) U) ∧
  va_Nw (.fieldLinkNest "Canticle$Reckoner" 48 "Canticle" "POWERS" "[I" "Canticle") U ∧ va_Nw (.fieldLinkNest "Canticle$Ledger" 48 "Canticle" "POWERS" "[I" "Canticle") U ∧ va_Nw (.fieldLinkNest "Canticle$Search" 67 "Canticle" "POWERS" "[I" "Canticle") U ∧
  va_AO "Canticle$Tally" U ∧ va_AO "java/lang/Object" U ∧ va_AOA .int U ∧
  va_Nw (.castable "java/lang/IllegalStateException" "java/lang/IllegalStateException") U ∧ va_Nw (.castable "java/lang/IllegalArgumentException" "java/lang/IllegalArgumentException") U ∧ va_Nw (.castable "java/lang/IndexOutOfBoundsException" "java/lang/IndexOutOfBoundsException") U ∧ va_Nw (.castable "[I" "java/lang/Cloneable") U ∧
  va_Nw (.methodLinkNest RX5 36 yX2_init "Canticle") U ∧ va_Nw (.methodLinkNest RX0 27 yX4_init "Canticle") U ∧ va_Nw (.methodLinkNest RX3 81 yX5_cost "Canticle") U ∧ va_Nw (.castable "[I" "java/lang/Object") U ∧ va_Nc "java/lang/IllegalStateException" "java/lang/IllegalArgumentException" U ∧ va_Nc "java/lang/IndexOutOfBoundsException" "java/lang/IllegalArgumentException" U ∧ va_Nc "java/lang/IllegalStateException" "java/lang/IndexOutOfBoundsException" U
theorem Wd.warm {ε : Nat → Nat} {s U : State} (hW : s.WarmedH U.vm) (h : Wd ε s) : Wd ε U := by
  obtain ⟨h1, h2, h3, h4, h5, h6, h7, h8, h9, h10, h11, h12, h13, h14, h15, h16, h17, h18⟩ := h
  exact ⟨fun q hq => (h1 q hq).warm hW, h2.warmF hW, h3.warmF hW, h4.warmF hW, va_AO.moved hW.alike h5, va_AO.moved hW.alike h6, va_AOA.moved hW.alike h7, h8.warmC hW, h9.warmC hW, h10.warmC hW, h11.warmC hW, h12.warmM hW, h13.warmM hW, h14.warmM hW, h15.warmC hW, va_Nc.moved hW.alike h16, va_Nc.moved hW.alike h17, va_Nc.moved hW.alike h18⟩
/-- what a start holds beside the world: outside A -/
def En (ε : Nat → Nat) (A : Nat → Prop) (U : State) (H : Heap) : Prop :=
  vx_Zq Bundle.tN "UNASSIGNED_STACK" Bundle.steD A U H ∧ vx_Zq Bundle.tN "SUPPRESSED_SENTINEL" Bundle.listD A U H ∧
  va_Z "Canticle" "POWERS" "[I" (.ref (ε 0)) A U H ∧ va_T .int (ε 0) 5 (fun j => .int (pw j)) A U H ∧
  va_Z "java/util/ArrayList" "DEFAULTCAPACITY_EMPTY_ELEMENTDATA" "[Ljava/lang/Object;" (.ref (ε 1)) A U H ∧ va_T (.object "java/lang/Object") (ε 1) 0 (fun _ => .null) A U H ∧ Wd ε U
theorem En.warm {ε : Nat → Nat} {A : Nat → Prop} {s U : State} {H : Heap} (hW : s.WarmedH U.vm) (h : En ε A s H) : En ε A U H := by
  obtain ⟨h1, h2, h3, h4, h5, h6, h7⟩ := h
  exact ⟨h1.moved hW.alike, h2.moved hW.alike, va_Z.moved hW.alike h3, va_T.moved hW.alike h4, va_Z.moved hW.alike h5, va_T.moved hW.alike h6, h7.warm hW⟩
theorem En.kept {ε : Nat → Nat} {A : Nat → Prop} {U : State} {H H1 : Heap} (h : En ε A U H) (hq : ∀ a : Nat, a < H.size → ¬ A a → H1[a]? = H[a]?) : En ε A U H1 := by
  obtain ⟨h1, h2, h3, h4, h5, h6, h7⟩ := h
  exact ⟨h1.kept hq, h2.kept hq, va_Z.kept h3 hq, va_T.kept h4 hq, va_Z.kept h5 hq, va_T.kept h6 hq, h7⟩
theorem En.narrow {ε : Nat → Nat} {A B : Nat → Prop} {U : State} {H : Heap} (h : En ε A U H) (hAB : ∀ q, B q → A q) : En ε B U H := by
  obtain ⟨h1, h2, h3, h4, h5, h6, h7⟩ := h
  exact ⟨h1.narrow hAB, h2.narrow hAB, va_Z.narrow h3 hAB, va_T.narrow h4 hAB, va_Z.narrow h5 hAB, va_T.narrow h6 hAB, h7⟩
/-- a method's start: its cells, apart, and what lies beside them -/
def Pre (D : va_G) (κ ε : Nat → Nat) (ws : va_W) (sz : Nat) (U : State) : Prop :=
  U.heap.size = sz ∧ va_P D vwCl ws U.heap ∧ va_K D vwCl (tys κ) U ∧ va_D (fun _ => True) ws ∧ En ε (va_A ws sz) U U.heap
/-- the start of a method that only reads -/
def Pre0 (D : va_G) (κ : Nat → Nat) (ws : va_W) (U : State) : Prop := va_P D vwCl ws U.heap ∧ va_K D vwCl (tys κ) U
theorem pre_blind {D : va_G} {κ ε : Nat → Nat} {ws : va_W} {sz : Nat} {av : List Value} : FrameBlind (va_Pc av (Pre D κ ε ws sz)) := fun a U g mk q => by
  obtain ⟨q0, q1, qP, qK, qD, qE⟩ := q
  exact ⟨q0, q1, qP, va_K.moved (u := U) (U := U.calling g mk a) (Vm.Alike.refl U.vm) qK, qD, En.warm (s := U) (U := U.calling g mk a) (State.WarmedH.refl U) qE⟩
theorem pre0_blind {D : va_G} {κ : Nat → Nat} {ws : va_W} {av : List Value} : FrameBlind (va_Pc av (Pre0 D κ ws)) := fun a U g mk q => by
  obtain ⟨q0, qP, qK⟩ := q
  exact ⟨q0, qP, va_K.moved (u := U) (U := U.calling g mk a) (Vm.Alike.refl U.vm) qK⟩
theorem va_P_ofD {D : va_G} {cl : List vw_C} {ws wc : va_W} {H : Heap} (hP : va_P D cl ws H) (is : List Nat) (hC : is.map (fun i => ws[i]?) = wc.map some) : va_P D cl wc H := by
  intro k q hk
  have h1 : (is.map (fun i => ws[i]?))[k]? = some (some q) := by rw [hC, List.getElem?_map, hk]; rfl
  rw [List.getElem?_map] at h1
  cases h2 : is[k]? with
  | none => rw [h2] at h1; cases h1
  | some i =>
    rw [h2] at h1
    exact hP i q (Option.some.inj h1)
section
variable {p : Program} {l : Launch} {e : Env} {R : Room} {s : State} {m : MethodId} {args : Array Value} {below : List Frame} {meth : Method} {c : Code} {H : Heap} {locs : List Loc} {cells slots : Nat} {Q : State → Prop}
variable {pc : Nat} {ls : Array Slot} {rest : List Value} {D : va_G} {κ ε : Nat → Nat} {A : Nat → Prop} {ws wc : va_W}
theorem pre_at {av : List Value} (hP : va_P D vwCl ws H) (hD : va_D A ws) (hK : va_K D vwCl (tys κ) s) (hE : En ε A s s.heap) (hS : va_S A s.heap H locs) (hA : ∀ q, s.heap.size ≤ q → A q) (is : List Nat) (hn : va_nd is = true) (hC : is.map (fun i => ws[i]?) = wc.map some) : ∀ U : State, U.heap = H → s.WarmedH U.vm → va_Pc av (Pre D κ ε wc H.size) av.toArray U := by
  intro U hU hW
  have hF := va_free hD hS hA is hC
  refine ⟨rfl, by rw [hU], by rw [hU]; exact va_P_ofD hP is hC, va_K.moved hW.alike hK, (hD.sub is hn hC).weaken (fun _ _ _ _ => trivial), ?_⟩
  rw [hU]
  exact (((hE.kept hS.2.1).narrow hF).warm hW)
theorem pre_S {av : List Value} (hP : va_P D vwCl ws H) (hD : va_D A ws) (hK : va_K D vwCl (tys κ) s) (hE : En ε A s s.heap) (hS : va_S A s.heap H locs) (hA : ∀ q, s.heap.size ≤ q → A q) (is : List Nat) (hn : va_nd is = true) (hC : is.map (fun i => ws[i]?) = wc.map some) : PreS s H (va_Pc av (Pre D κ ε wc H.size)) av := ⟨pre_blind, pre_at hP hD hK hE hS hA is hn hC⟩
theorem pre_V {av : List Value} {b q0 ci : Nat} {cq : vw_C} {fs : List Value} (hP : va_P D vwCl ws H) (hD : va_D A ws) (hK : va_K D vwCl (tys κ) s) (hE : En ε A s s.heap) (hS : va_S A s.heap H locs) (hA : ∀ q, s.heap.size ≤ q → A q) (is : List Nat) (hn : va_nd is = true) (hC : is.map (fun i => ws[i]?) = wc.map some) (hc : vwCl[ci]? = some cq) (hb : ws[q0]? = some (b, .inr (ci, fs))) : PreV s H cq.1 b (va_Pc (.ref b :: av) (Pre D κ ε wc H.size)) av := ⟨pre_blind, va_recv hK hP hc hb, pre_at hP hD hK hE hS hA is hn hC⟩
theorem pre0_S {av : List Value} (hP : va_P D vwCl ws H) (hK : va_K D vwCl (tys κ) s) (is : List Nat) (hC : is.map (fun i => ws[i]?) = wc.map some) : PreS s H (va_Pc av (Pre0 D κ wc)) av := ⟨pre0_blind, fun U hU hW => ⟨rfl, by rw [hU]; exact va_P_ofD hP is hC, va_K.moved hW.alike hK⟩⟩
theorem pre0_V {av : List Value} {b q0 ci : Nat} {cq : vw_C} {fs : List Value} (hP : va_P D vwCl ws H) (hK : va_K D vwCl (tys κ) s) (is : List Nat) (hC : is.map (fun i => ws[i]?) = wc.map some) (hc : vwCl[ci]? = some cq) (hb : ws[q0]? = some (b, .inr (ci, fs))) : PreV s H cq.1 b (va_Pc (.ref b :: av) (Pre0 D κ wc)) av := ⟨pre0_blind, va_recv hK hP hc hb, fun U hU hW => ⟨rfl, by rw [hU]; exact va_P_ofD hP is hC, va_K.moved hW.alike hK⟩⟩
/-- behind a call: what came back beside what was kept, laid as ws' -/
theorem post_j {H1 : Heap} {wr w1 ws' : va_W} (hP : va_P D vwCl ws H) (hD : va_D A ws) (hF : ∀ q, va_A wc H.size q → A q) (is : List Nat) (hC : is.map (fun i => ws[i]?) = wc.map some) (ir : List Nat) (hR : ir.map (fun i => ws[i]?) = wr.map some) (hn : va_nd ir = true) (hdis : ∀ i ∈ ir, i ∉ is) (hk : ∀ q : Nat, q < H.size → ¬ va_A wc H.size q → H1[q]? = H[q]?) (hP1 : va_P D vwCl w1 H1) (hD1 : va_D (va_A wc H.size) w1) (io : List Nat) (hn' : va_nd io = true) (hO : io.map (fun i => (wr ++ w1)[i]?) = ws'.map some) : va_P D vwCl ws' H1 ∧ va_D A ws' := by
  obtain ⟨a, b⟩ := va_join hP hD is ir hC hR hn hdis hk hF hP1 hD1
  exact ⟨va_P_ofD a io hO, b.sub io hn' hO⟩
theorem tpi {x v : Int32} (h : x = v) (k : W p l e R s m args below meth c H locs cells slots Q (F0 m pc ls (.int v :: rest))) : W p l e R s m args below meth c H locs cells slots Q (F0 m pc ls (.int x :: rest)) := by subst h; exact k
theorem tpl {x v : Int64} (h : x = v) (k : W p l e R s m args below meth c H locs cells slots Q (F0 m pc ls (.long v :: rest))) : W p l e R s m args below meth c H locs cells slots Q (F0 m pc ls (.long x :: rest)) := by subst h; exact k
theorem tpd {x v : UInt64} (h : x = v) (k : W p l e R s m args below meth c H locs cells slots Q (F0 m pc ls (.double v :: rest))) : W p l e R s m args below meth c H locs cells slots Q (F0 m pc ls (.double x :: rest)) := by subst h; exact k
theorem tpv {x v : Value} (h : x = v) (k : W p l e R s m args below meth c H locs cells slots Q (F0 m pc ls (v :: rest))) : W p l e R s m args below meth c H locs cells slots Q (F0 m pc ls (x :: rest)) := by subst h; exact k
end
theorem vpl {i : Int32} {n : Nat} (h : decide (¬ (i < 0 ∨ n ≤ i.toNatClampNeg)) = true) : vp_in i n := (of_decide_eq_true h : ¬ (i < 0 ∨ n ≤ i.toNatClampNeg))
/-- two contents of an array that agree on its places -/
theorem cell_cg {cA : ClassId} {n : Nat} {f g : Nat → Int32} (h : ∀ j, j < n → f j = g j) : vp_cell cA (n, .inl f) = vp_cell cA (n, .inl g) := by
  show arrV cA n (fun j => .int (f j)) = arrV cA n (fun j => .int (g j))
  unfold arrV
  congr 1
  apply Array.ext
  · simp
  · intro i h1 h2
    simp only [Array.size_ofFn] at h1
    simp [h i h1]
theorem cell_cgq {cA : ClassId} {n : Nat} {f g : Nat → Option Nat} (h : ∀ j, j < n → f j = g j) : vp_cell cA (n, .inr (.inr (.inr (.inr f)))) = vp_cell cA (n, .inr (.inr (.inr (.inr g)))) := by
  rw [vp_cell_q, vp_cell_q]
  unfold arrV
  congr 1
  apply Array.ext
  · simp
  · intro i h1 h2
    simp only [Array.size_ofFn] at h1
    simp [h i h1]
theorem P_cg {D : va_G} {cl : List vw_C} {ws ws' : va_W} {H : Heap} (k : Nat) {a : Nat} {cA : ClassId} {x y : vp_A} (hP : va_P D cl ws H) (hk : ws[k]? = some (a, .inl (cA, x))) (h : vp_cell cA x = vp_cell cA y) (hs : ws.set k (a, .inl (cA, y)) = ws') : va_P D cl ws' H := by
  subst hs
  intro i q hi
  by_cases e : i = k
  · subst e
    have hl : i < ws.length := (List.getElem?_eq_some_iff.mp hk).1
    rw [List.getElem?_set_self hl] at hi
    cases hi
    have h0 : H[a]? = some (vp_cell cA x) := hP i _ hk
    show H[a]? = some (vp_cell cA y)
    rw [← h]
    exact h0
  · rw [List.getElem?_set_ne (fun q => e q.symm)] at hi
    exact hP i q hi
theorem D_cg {A : Nat → Prop} {ws ws' : va_W} (k : Nat) {a : Nat} {x y : va_E} (hD : va_D A ws) (hk : ws[k]? = some (a, x)) (hs : ws.set k (a, y) = ws') : va_D A ws' := by
  subst hs
  exact hD.set hk
/-- the contents of an array of references, listed -/
def sel (l : List Nat) (j : Nat) : Option Nat := l[j]?
theorem K_tail {D : va_G} {κ : Nat → ClassId} {s : State} {tl : List (ClassId × FieldType)} (hK : va_K D vwCl (tys κ ++ tl) s) : va_K D vwCl (tys κ) s := hK.sub [0, 1, 2, 3, 4, 5] rfl
theorem K_one {D : va_G} {κ : Nat → ClassId} {s : State} {cA : ClassId} {ty : FieldType} {i : Nat} (hK : va_K D vwCl (tys κ ++ [(cA, ty)]) s) {ci : ClassId} (hi : (tys κ)[i]? = some (ci, ty)) : cA = ci := by
  have h1 := (hK.2 6 (cA, ty) rfl).2
  have h2 := (hK.2 i (ci, ty) (by rw [List.getElem?_append_left (List.getElem?_eq_some_iff.mp hi).1]; exact hi)).2
  cases ty with
  | object C =>
    obtain ⟨_, _, _, _, _, a⟩ := h1
    obtain ⟨_, _, _, _, _, b⟩ := h2
    exact Option.some.inj (a.symm.trans b)
  | _ => exact Option.some.inj ((show s.vm.findClass _ = some cA from h1).symm.trans h2)
section
variable {p : Program} {l : Launch} {e : Env} {R : Room} {s : State} {m : MethodId} {args : Array Value} {below : List Frame} {meth : Method} {c : Code} {H : Heap} {locs : List Loc} {cells slots : Nat} {Q : State → Prop}
variable {pc : Nat} {ls : Array Slot} {rest : List Value} {D : va_G} {κ ε : Nat → Nat} {A : Nat → Prop} {ws wc : va_W} {H0 : Heap} {a : Nat}
/-- new int[n][] -/
theorem ya_new2 {cc : ByteArray} (hx : p.tables.exec = Jvm.exec) (hb : c.code = cc) {own : String} {index : Nat} (hown : s.vm.findClass own = some m.cls) (hclink : (Cond.classLink own index (FieldType.array .int).toString).before args s = true) (hover : va_AOA .int s) (hK : va_K D vwCl (tys κ) s) (hP : va_P D vwCl ws H) (hD : va_D A ws) (hS : va_S A H0 H locs) (hA : ∀ q, H0.size ≤ q → A q)
    {n : Int32} {N' : Nat} (hn : ¬ n < 0) (hN : n.toNatClampNeg = N') (hbytes : N' * 4 ≤ 536870912) (hcells : cells + 1 ≤ R.cells) (hslots : slots + N' ≤ R.slots) (hdg : decode cc pc = .ok (.anewarray index, 3))
    (kk : ∀ (q : Nat) (H1 : Heap), va_P D vwCl (ws ++ [(q, .inl (κ 4, N', .inr (.inr (.inr (.inr (fun _ => none))))))]) H1 → va_D A (ws ++ [(q, .inl (κ 4, N', .inr (.inr (.inr (.inr (fun _ => none))))))]) → va_S A H0 H1 locs →
      W p l e R s m args below meth c H1 locs (cells + 1) (slots + N') Q (F0 m (pc + 3) ls (.ref q :: rest))) : W p l e R s m args below meth c H locs cells slots Q (F0 m pc ls (.int n :: rest)) := by
  subst hN
  refine W.anewA hx hb hown hclink (va_AOA.use hover) rfl hdg rfl hn hbytes hcells hslots fun cA kA comp f1 f2 f3 f4 => ?_
  have hc : κ 4 = cA := Option.some.inj (((show s.vm.findClass _ = some (κ 4) from (hK.2 4 _ rfl).2)).symm.trans f1)
  rw [← hc]
  generalize hH1 : H.push ({ cls := κ 4, slots := Array.replicate n.toNatClampNeg .null, vm := .none } : Cell) = H1
  have z1 : H1.size = H.size + 1 := by rw [← hH1, Array.size_push]
  have e1 : H1[H.size]? = some (arrV (κ 4) n.toNatClampNeg (fun _ => .null)) := by rw [← hH1, Array.getElem?_push_size, ← arrV_new]
  have o1 : ∀ q : Nat, q < H.size → H1[q]? = H[q]? := fun q hq => by rw [← hH1, Array.getElem?_push, if_neg (Nat.ne_of_lt hq)]
  have hk : ∀ (k : Nat) (x : Nat × va_E), ws[k]? = some x → H1[x.1]? = H[x.1]? := fun k x hx => o1 x.1 ((hP k x hx).lt)
  refine kk H.size H1 ((hP.kept hk).app (fun k x hx => ?_)) (hD.push hP rfl (hA _ hS.1)) ⟨Nat.le_trans hS.1 (by omega), fun x h1 h2 => (o1 x (Nat.lt_of_lt_of_le h1 hS.1)).trans (hS.2.1 x h1 h2), hS.2.2⟩
  have hz : k < 1 := (List.getElem?_eq_some_iff.mp hx).1
  rw [show k = 0 by omega] at hx
  cases hx
  show H1[H.size]? = some (vp_cell _ _)
  rw [vp_cell_q]
  exact e1
/-- a row out of an int[][] -/
theorem ya_ld2 {cc : ByteArray} (hx : p.tables.exec = Jvm.exec) (hb : c.code = cc) (hK : va_K D vwCl (tys κ) s) (hP : va_P D vwCl ws H) (q0 : Nat) {n : Nat} {f : Nat → Option Nat} (ha : ws[q0]? = some (a, .inl (κ 4, n, .inr (.inr (.inr (.inr f)))))) {i : Int32} (hin : vp_in i n) {v : Value} (hv : va_rf (f i.toNatClampNeg) = v) (hdg : decode cc pc = .ok (.aaload, 1))
    (kk : W p l e R s m args below meth c H locs cells slots Q (F0 m (pc + 1) ls (v :: rest))) : W p l e R s m args below meth c H locs cells slots Q (F0 m pc ls (.int i :: .ref a :: rest)) := by
  subst hv
  have hlt : i.toNatClampNeg < n := Nat.not_le.mp fun q => hin (Or.inr q)
  exact W.aald (v := va_rf (f i.toNatClampNeg)) (ty := .array .int) hx hb (hP q0 _ ha) ((hK.2 4 _ rfl).1 n (fun j => va_rf (f j))) rfl (fun q => by cases q) (by show ¬ (i < 0 ∨ (arrV _ _ _).slots.size ≤ _); rw [arrV_size]; exact hin) (by show (arrV _ _ _).slots[_]? = _; rw [arrV_read _ _ hlt]) rfl rfl hdg kk
/-- a row into an int[][] -/
theorem ya_st2 {cc : ByteArray} (hx : p.tables.exec = Jvm.exec) (hb : c.code = cc) (hover : va_AOA .int s) (hK : va_K D vwCl (tys κ) s) (hP : va_P D vwCl ws H) (hD : va_D A ws) (hS : va_S A H0 H locs) (q0 qk : Nat) {n v : Nat} {z : vp_A} {f : Nat → Option Nat} (ha : ws[q0]? = some (a, .inl (κ 4, n, .inr (.inr (.inr (.inr f)))))) (hv : ws[qk]? = some (v, .inl (κ 0, z))) {y : Nat → Int32} (hz : z.2 = .inl y) {i : Int32} (hin : vp_in i n) (hdg : decode cc pc = .ok (.aastore, 1))
    (kk : ∀ (H1 : Heap) (locs1 : List Loc), va_P D vwCl (ws.set q0 (a, .inl (κ 4, n, .inr (.inr (.inr (.inr (va_up f i.toNatClampNeg (some v)))))))) H1 → va_D A (ws.set q0 (a, .inl (κ 4, n, .inr (.inr (.inr (.inr (va_up f i.toNatClampNeg (some v)))))))) → va_S A H0 H1 locs1 → W p l e R s m args below meth c H1 locs1 cells slots Q (F0 m (pc + 1) ls rest)) : W p l e R s m args below meth c H locs cells slots Q (F0 m pc ls (.ref v :: .int i :: .ref a :: rest)) := by
  have hlt : i.toNatClampNeg < n := Nat.not_le.mp fun q => hin (Or.inr q)
  have h0 : ¬ i < 0 := fun q => hin (Or.inl q)
  obtain ⟨comp, c4, k4, g1, -, g3, g4, g5⟩ := arrayOverA_spec (va_AOA.use (A := #[]) hover)
  have e4 : c4 = κ 4 := Option.some.inj (g5.symm.trans (show s.vm.findClass _ = some (κ 4) from (hK.2 4 _ rfl).2))
  have e0 : comp = κ 0 := Option.some.inj (g1.symm.trans (show s.vm.findClass _ = some (κ 0) from (hK.2 0 _ rfl).2))
  rw [e4] at g3
  rw [e0] at g4
  obtain ⟨z1, z2⟩ := z
  subst hz
  have hv1 : H[v]? = some (arrV (κ 0) z1 (fun j => .int (y j))) := hP qk _ hv
  obtain ⟨-, k0, h2, c0, h3⟩ := (hK.2 0 _ rfl).1 z1 (fun j => .int (y j))
  have h2' : s.vm.classes[κ 0]? = some k0 := h2
  refine W.aast hx hb (hP q0 _ ha) (fun q h => by cases h) (fun h => by cases h) g3 g4 rfl h2' ⟨h0, by show _ < (arrV _ _ _).slots.size; rw [arrV_size]; exact hlt⟩ hv1 (fun q h => by cases h) h2' ?_ rfl rfl hdg fun H1 e z oq => ?_
  · show s.vm.assignable (κ 0) (κ 0) = true
    unfold Vm.assignable Vm.assignableAux
    rw [beq_self_eq_true, Bool.true_or]
  · refine kk H1 _ (hP.set hD ha ?_ oq) (hD.set ha) (hS.put z oq (hD.2 q0 _ ha))
    show H1[a]? = some (vp_cell _ _)
    rw [e]
    rw [vp_cell_q, vp_cell_q, arrV_store]
    congr 2
    funext q
    by_cases hq : q = i.toNatClampNeg
    · subst hq
      simp [updV, va_up, va_rf]
    · simp [updV, va_up, hq]
end
theorem loop_up {nL N : Nat} {lv : Nat → List (Nat × Value)} {Wp : Array Slot → Prop} (i0 : Nat) (h0 : i0 ≤ N) (hz : ∀ ls, lv_has ls nL (lv N) → Wp ls) (hs : ∀ i, i0 ≤ i → i < N → (∀ ls, lv_has ls nL (lv (i + 1)) → Wp ls) → ∀ ls, lv_has ls nL (lv i) → Wp ls) : ∀ ls, lv_has ls nL (lv i0) → Wp ls := by
  have key : ∀ (n i : Nat), i0 ≤ i → i + n = N → ∀ ls, lv_has ls nL (lv i) → Wp ls := by
    intro n
    induction n with
    | zero =>
      intro i _ hi ls hl
      have e : i = N := by omega
      subst e
      exact hz ls hl
    | succ n ih =>
      intro i h1 h2 ls hl
      exact hs i h1 (by omega) (ih (i + 1) (by omega) (by omega)) ls hl
  exact key (N - i0) i0 (Nat.le_refl _) (by omega)
theorem loop_w {N : Nat} {Inv : Nat → Array Slot → Heap → List Loc → Prop} {Wp : Array Slot → Heap → List Loc → Prop} (i0 : Nat) (h0 : i0 ≤ N) (hz : ∀ ls H locs, Inv N ls H locs → Wp ls H locs) (hs : ∀ i, i0 ≤ i → i < N → (∀ ls H locs, Inv (i + 1) ls H locs → Wp ls H locs) → ∀ ls H locs, Inv i ls H locs → Wp ls H locs) : ∀ ls H locs, Inv i0 ls H locs → Wp ls H locs := by
  have key : ∀ (n i : Nat), i0 ≤ i → i + n = N → ∀ ls H locs, Inv i ls H locs → Wp ls H locs := by
    intro n
    induction n with
    | zero =>
      intro i _ hi ls H locs hl
      have e : i = N := by omega
      subst e
      exact hz ls H locs hl
    | succ n ih =>
      intro i h1 h2 ls H locs hl
      exact hs i h1 (by omega) (ih (i + 1) (by omega) (by omega)) ls H locs hl
  exact key (N - i0) i0 (Nat.le_refl _) (by omega)
theorem lp_nge {i N : Nat} {v : Int32} (hv : v = nI N) (h : i < N) (hN : N < 2 ^ 31) : ¬ v ≤ nI i := by
  subst hv
  exact nI_ge h hN
theorem nI_inc (i : Nat) : nI i + Int32.ofInt 1 = nI (i + 1) := nI_1 i
/-- what a throw keeps -/
theorem thF {A : Nat → Prop} {H0 H : Heap} {locs : List Loc} {s t : State} (hS : va_S A s.heap H locs) (h1 : H.size ≤ t.heap.size) (h2 : ∀ q : Nat, q < H.size → t.heap[q]? = H[q]?) : va_F A s t :=
  ⟨Nat.le_trans hS.1 h1, fun q hq hn => (h2 q (Nat.lt_of_lt_of_le hq hS.1)).trans (hS.2.1 q hq hn)⟩
theorem clone_fit (cA : ClassId) (n : Nat) (f : Nat → Int32) : ∀ (i : Nat) (v : Value), (vp_cell cA (n, .inl f)).slots[i]? = some v → fits .int v = true := by
  intro i v h
  have h1 : (arrV cA n (fun j => .int (f j))).slots[i]? = some v := h
  have hl : i < (arrV cA n (fun j => .int (f j))).slots.size := (Array.getElem?_eq_some_iff.mp h1).1
  rw [arrV_size] at hl
  rw [arrV_read _ _ hl] at h1
  cases h1
  rfl
/-- an int[] may lie in an Object[] -/
theorem any_arr {D : va_G} {κ ε : Nat → Nat} {A : Nat → Prop} {ws : va_W} {s : State} {H H0 : Heap} {a n : Nat} {f : Nat → Int32} (hK : va_K D vwCl (tys κ) s) (hE : En ε A s H0) (hP : va_P D vwCl ws H) (k : Nat) (hk : ws[k]? = some (a, .inl (κ 0, n, .inl f))) : va_Any "java/lang/Object" s H a := by
  obtain ⟨c3, c4, g1, g2, g3⟩ := Cond.castable_spec (va_Nw.use (A := #[]) rfl hE.2.2.2.2.2.2.2.2.2.2.2.2.2.2.2.2.2.2.2.2.1)
  have e3 : c3 = κ 0 := Option.some.inj (g1.symm.trans (show s.vm.findClass _ = some (κ 0) from (hK.2 0 _ rfl).2))
  obtain ⟨-, k0, h2, c0, h3⟩ := (hK.2 0 _ rfl).1 n (fun j => .int (f j))
  refine ⟨_, hP k _ hk, rfl, ⟨k0, h2⟩, fun comp hc => ?_⟩
  have e4 : comp = c4 := Option.some.inj (hc.symm.trans g2)
  rw [e4]
  rw [e3] at g3
  exact g3
theorem lg_cmp_lt0 (x y : Int64) : lg_cmp x y < 0 ↔ x < y := by
  unfold lg_cmp
  by_cases h1 : x > y
  · rw [if_pos h1]
    exact ⟨fun h => absurd h (by decide), fun h => absurd h1 (Int64.lt_asymm h)⟩
  · rw [if_neg h1]
    by_cases h2 : x = y
    · rw [if_pos h2]
      exact ⟨fun h => absurd h (by decide), fun h => absurd h (by rw [h2]; exact Int64.lt_irrefl)⟩
    · rw [if_neg h2]
      exact ⟨fun _ => by
        simp only [gt_iff_lt, Int64.lt_iff_toInt_lt, ← Int64.toInt_inj] at *
        omega, fun _ => by decide⟩
theorem lg_cmp_eq0 (x y : Int64) : lg_cmp x y = 0 ↔ x = y := by
  unfold lg_cmp
  by_cases h1 : x > y
  · rw [if_pos h1]
    exact ⟨fun h => absurd h (by decide), fun h => absurd h1 (by rw [h]; exact Int64.lt_irrefl)⟩
  · rw [if_neg h1]
    by_cases h2 : x = y
    · rw [if_pos h2]
      exact ⟨fun _ => h2, fun _ => rfl⟩
    · rw [if_neg h2]
      exact ⟨fun h => absurd h (by decide), fun h => absurd h h2⟩
theorem lg_cmp_ge0 (x y : Int64) : 0 ≤ lg_cmp x y ↔ y ≤ x := by
  rw [← Int32.not_lt, lg_cmp_lt0, Int64.not_lt]
theorem lg_cmp_gt0 (x y : Int64) : 0 < lg_cmp x y ↔ y < x := by
  unfold lg_cmp
  by_cases h1 : x > y
  · rw [if_pos h1]
    exact ⟨fun _ => h1, fun _ => by decide⟩
  · rw [if_neg h1]
    by_cases h2 : x = y
    · rw [if_pos h2]
      exact ⟨fun h => absurd h (by decide), fun h => absurd h h1⟩
    · rw [if_neg h2]
      exact ⟨fun h => absurd h (by decide), fun h => absurd h h1⟩
theorem lg_cmp_le0 (x y : Int64) : lg_cmp x y ≤ 0 ↔ x ≤ y := by
  rw [← Int32.not_lt, lg_cmp_gt0, Int64.not_lt]
theorem bl_ne {x : Int32} (h1 : ¬ x < 1) (h2 : ¬ 1000 < x) : ¬ x.toInt64 = 0 := by
  intro h
  have e0 : (0 : Int64).toInt = 0 := by decide
  have e1 : (1 : Int32).toInt = 1 := by decide
  rw [← Int64.toInt_inj, Int32.toInt_toInt64, e0] at h
  rw [Int32.lt_iff_toInt_lt, e1] at h1
  omega
theorem bl_one {x : Int32} (h1 : ¬ x < 1) (h2 : ¬ 1000 < x) : x.toInt64 * 1000000 / x.toInt64 = 1000000 := by
  have e1 : (1 : Int32).toInt = 1 := by decide
  have e2 : (1000 : Int32).toInt = 1000 := by decide
  rw [Int32.lt_iff_toInt_lt, e1] at h1
  rw [Int32.lt_iff_toInt_lt, e2] at h2
  obtain ⟨j, hj, rfl⟩ := nI_of (x := x) (by rw [Int32.lt_iff_toInt_lt]; show ¬ x.toInt < 0; omega)
  rw [nI_toInt hj] at h1 h2
  rw [nI_l hj, show (1000000 : Int64) = lN 1000000 from rfl, lN_mul, pk_lDiv (by omega) (by omega) (by omega), Nat.mul_div_cancel_left _ (by omega)]
theorem P_nil {D : va_G} {cl : List vw_C} {H : Heap} : va_P D cl [] H := fun k q h => by simp at h
theorem D_nil {A : Nat → Prop} : va_D A [] := ⟨fun i j p q h => by simp at h, fun k q h => by simp at h⟩
