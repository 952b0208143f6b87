/-! THE MOVING WORLD: its state is the list of cells and the two counters -/
abbrev DS : Type := va_W × Nat × Nat
abbrev Wd (u : DS) : va_W × Nat × Nat := u
theorem P_mem {D : va_G} {cl : List vw_C} {ws : va_W} {H : Heap} : va_P D cl ws H ↔ ∀ q ∈ ws, va_at D cl q H :=
  ⟨fun h q hq => by obtain ⟨k, hk⟩ := List.getElem?_of_mem hq; exact h k q hk, fun h k q hk => h q (List.mem_of_getElem? hk)⟩
theorem D_mem {A : Nat → Prop} {ws : va_W} : va_D A ws ↔ (ws.map (fun q => q.1)).Nodup ∧ ∀ q ∈ ws, A q.1 := by
  constructor
  · intro h
    refine ⟨List.pairwise_iff_getElem.mpr (fun i j hi hj hij e => ?_), fun q hq => by obtain ⟨k, hk⟩ := List.getElem?_of_mem hq; exact h.2 k q hk⟩
    rw [List.length_map] at hi hj
    rw [List.getElem_map, List.getElem_map] at e
    have := h.1 i j _ _ (List.getElem?_eq_getElem hi) (List.getElem?_eq_getElem hj) e
    omega
  · rintro ⟨h1, h2⟩
    refine ⟨fun i j p q hi hj e => ?_, fun k q hk => h2 q (List.mem_of_getElem? hk)⟩
    obtain ⟨hi', ei⟩ := List.getElem?_eq_some_iff.mp hi
    obtain ⟨hj', ej⟩ := List.getElem?_eq_some_iff.mp hj
    have h3 := List.pairwise_iff_getElem.mp h1
    rcases Nat.lt_trichotomy i j with g | g | g
    · exact absurd (by rw [List.getElem_map, List.getElem_map, ei, ej]; exact e) (h3 i j (by rw [List.length_map]; exact hi') (by rw [List.length_map]; exact hj') g)
    · exact g
    · exact absurd (by rw [List.getElem_map, List.getElem_map, ei, ej]; exact e.symm) (h3 j i (by rw [List.length_map]; exact hj') (by rw [List.length_map]; exact hi') g)
theorem P_perm {D : va_G} {cl : List vw_C} {ws w1 w2 : va_W} {H : Heap} (hp : ws.Perm (w1 ++ w2)) (h : va_P D cl ws H) : va_P D cl w1 H := P_mem.mpr fun q hq => P_mem.mp h q (hp.mem_iff.mpr (List.mem_append_left _ hq))
theorem D_perm {A : Nat → Prop} {ws w1 w2 : va_W} (hp : ws.Perm (w1 ++ w2)) (h : va_D A ws) : va_D A w1 := by
  rw [D_mem] at h ⊢
  have h1 := (hp.map (fun q => q.1)).nodup_iff.mp h.1
  rw [List.map_append] at h1
  exact ⟨(List.nodup_append.mp h1).1, fun q hq => h.2 q (hp.mem_iff.mpr (List.mem_append_left _ hq))⟩
/-- behind a call of a part -/
theorem w_join {A0 : Nat → Prop} {D : va_G} {cl : List vw_C} {wr wc w1 : va_W} {H H1 : Heap} (hP : va_P D cl (wr ++ wc) H) (hD : va_D A0 (wr ++ wc)) (hk : ∀ q : Nat, q < H.size → ¬ va_A wc H.size q → H1[q]? = H[q]?) (hF : ∀ q, va_A wc H.size q → A0 q) (hP1 : va_P D cl w1 H1) (hD1 : va_D (va_A wc H.size) w1) : va_P D cl (wr ++ w1) H1 ∧ va_D A0 (wr ++ w1) := by
  have hx : ∀ q ∈ wr, q.1 < H.size ∧ ¬ va_A wc H.size q.1 := by
    intro q hq
    have hlt := (P_mem.mp hP q (List.mem_append_left _ hq)).lt
    refine ⟨hlt, fun h => ?_⟩
    rcases h with ⟨k, e, h⟩ | h
    · have hn := (D_mem.mp hD).1
      rw [List.map_append] at hn
      exact (List.nodup_append.mp hn).2.2 q.1 (List.mem_map.mpr ⟨q, hq, rfl⟩) q.1 (List.mem_map.mpr ⟨(q.1, e), List.mem_of_getElem? h, rfl⟩) rfl
    · omega
  refine ⟨P_mem.mpr fun q hq => ?_, D_mem.mpr ⟨?_, fun q hq => ?_⟩⟩
  · rcases List.mem_append.mp hq with h | h
    · exact (P_mem.mp hP q (List.mem_append_left _ h)).kept (hk q.1 (hx q h).1 (hx q h).2)
    · exact P_mem.mp hP1 q h
  · have hn := (D_mem.mp hD).1
    rw [List.map_append] at hn ⊢
    refine List.nodup_append.mpr ⟨(List.nodup_append.mp hn).1, (D_mem.mp hD1).1, fun x hx9 y hy9 e => ?_⟩
    obtain ⟨q, hq, rfl⟩ := List.mem_map.mp hx9
    obtain ⟨q2, hq2, rfl⟩ := List.mem_map.mp hy9
    refine (hx q hq).2 ?_
    rw [e]
    exact (D_mem.mp hD1).2 q2 hq2
  · rcases List.mem_append.mp hq with h | h
    · exact (D_mem.mp hD).2 q (List.mem_append_left _ h)
    · exact hF _ ((D_mem.mp hD1).2 q h)
theorem K_one {D : va_G} {κ : Nat → ClassId} {s : State} {cA : ClassId} {ty : FieldType} {i : Nat} (hK : va_K D vwCl (tys κ ++ [(cA, ty)]) s) {ci : ClassId} (hi : (tys κ)[i]? = some (ci, ty)) : cA = ci := by
  have h1 := (hK.2 4 (cA, ty) rfl).2
  have h2 := (hK.2 i (ci, ty) (by rw [List.getElem?_append_left (List.getElem?_eq_some_iff.mp hi).1]; exact hi)).2
  cases ty with
  | object C =>
    obtain ⟨_, _, _, _, _, a⟩ := h1
    obtain ⟨_, _, _, _, _, b⟩ := h2
    exact Option.some.inj (a.symm.trans b)
  | _ => exact Option.some.inj ((show s.vm.findClass _ = some cA from h1).symm.trans h2)

/-- the frame of a method whose name is nm -/
def Cn {S : Type} (Wx : S → va_W × Nat × Nat) (l : Launch) (D : va_G) (κ : Nat → Nat) (ε : EE) (own : String) (cc : ByteArray) (mL : Nat) (ret : Option FieldType) (R : Room) (post : Option Value → S → Prop) (Γ : S → Nat → Array Slot → List Value → Prop)  (nm : String) : Prop :=
  ∃ (p : Program) (e : Jvm.Env) (s : State) (m : MethodId) (args : Array Value) (below : List Frame) (meth : Method) (c : Code) (A : Nat → Prop) (Q : State → Prop),
    Γ = Gm Wx p l e R s m args below meth c D A Q ∧ p.tables.exec = Jvm.exec ∧ c.code = cc ∧ c.maxLocals = mL ∧ s.vm.findClass own = some m.cls ∧ (∀ w ∈ Wall, w.before args s = true) ∧ va_K D vwCl (tys κ) s ∧ Ev ε A s s.heap ∧ (∀ q, s.heap.size ≤ q → A q) ∧
    (∀ (u : S) (pc : Nat) (ls : Array Slot) (v : Option Value) (H : Heap) (locs : List Loc), retOk cc pc ret v → post v u → (Wx u).2.1 ≤ R.cells → (Wx u).2.2 ≤ R.slots → va_P D vwCl (Wx u).1 H → va_D A (Wx u).1 → va_S A s.heap H locs → W p l e R s m args below meth c H locs (Wx u).2.1 (Wx u).2.2 Q (F0 m pc ls v.toList)) ∧ meth.name = nm
theorem cell_cg {cA : ClassId} {n : Nat} {f g : Nat → Int32} (h : ∀ j, j < n → f j = g j) : vp_cell cA (n, .inl f) = vp_cell cA (n, .inl g) := by
  show arrV cA n (fun j => Value.int (f j)) = arrV cA n (fun j => Value.int (g j))
  unfold arrV
  congr 1
  apply Array.ext
  · simp
  · intro i h1 h2
    simp only [Array.size_ofFn] at h1
    simp [h i h1]
theorem cell_cgq {cA : ClassId} {n : Nat} {f g : Nat → Option Nat} (h : ∀ j, j < n → f j = g j) : vp_cell cA (n, .inr (.inr (.inr (.inr f)))) = vp_cell cA (n, .inr (.inr (.inr (.inr g)))) := by
  rw [vp_cell_q, vp_cell_q]
  unfold arrV
  congr 1
  apply Array.ext
  · simp
  · intro i h1 h2
    simp only [Array.size_ofFn] at h1
    simp [h i h1]
theorem P_cg {D : va_G} {cl : List vw_C} {ws ws' : va_W} {H : Heap} (k : Nat) {a : Nat} {cA : ClassId} {x y : vp_A} (hP : va_P D cl ws H) (hk : ws[k]? = some (a, .inl (cA, x))) (h : vp_cell cA x = vp_cell cA y) (hs : ws.set k (a, .inl (cA, y)) = ws') : va_P D cl ws' H := by
  subst hs
  intro i q hi
  by_cases e : i = k
  · subst e
    have hl : i < ws.length := (List.getElem?_eq_some_iff.mp hk).1
    rw [List.getElem?_set_self hl] at hi
    cases hi
    have h0 : H[a]? = some (vp_cell cA x) := hP i _ hk
    show H[a]? = some (vp_cell cA y)
    rw [← h]
    exact h0
  · rw [List.getElem?_set_ne (fun q => e q.symm)] at hi
    exact hP i q hi
theorem Cn.cx {S : Type} {Wx : S → va_W × Nat × Nat} {l : Launch} {D : va_G} {κ : Nat → Nat} {ε : EE} {own : String} {cc : ByteArray} {mL : Nat} {ret : Option FieldType} {R : Room} {post : Option Value → S → Prop} {Γ : S → Nat → Array Slot → List Value → Prop} {nm : String} (h : Cn Wx l D κ ε own cc mL ret R post Γ nm) : Cx Wx l D κ ε own cc mL ret R post Γ := by
  obtain ⟨p, e, s, m, args, below, meth, c, A, Q, h1, h2, h3, h4, h5, h6, h7, h8, h9, h10, -⟩ := h
  exact ⟨p, e, s, m, args, below, meth, c, A, Q, h1, h2, h3, h4, h5, h6, h7, h8, h9, h10⟩
theorem Ct.ofN {S : Type} {Wx : S → va_W × Nat × Nat} {l : Launch} {D : va_G} {κ : Nat → Nat} {ε : EE} {y : MethodName} {own : String} {cc : ByteArray} {mL : Nat} {ret : Option FieldType} {fr lo mc ms : Nat} {u : S} {av : List Value} {post : Option Value → S → Prop} (hown9 : y.cls = own) (hy : plainName y.cls = true) (hav : (lg_sl av).length ≤ mL) (hu0 : (Wx u).2 = (0, 0))
    (body : ∀ Γ, Cn Wx l D κ ε own cc mL ret { frames := fr, cells := mc, slots := ms, locals := lo } post Γ y.name → WW Γ mL u 0 (lv_args 0 av) []) : Ct Wx l D κ ε y cc mL ret fr lo mc ms u av post := by
  subst hown9
  intro sz
  refine Met.ofW (cc := cc) (maxL := mL) (ret := ret) hy rfl ?_
  intro p e s m args below meth c s₁ B hml hv
  obtain ⟨rfl, hsz, hP, hK, hD0, hE⟩ := hv
  have hx := B.exec
  have hb := B.bytes
  have hr := B.returns
  have hts0 := atoms_spec (ws := Cond.code y cc mL ret :: Wall) B.pre
  have hts : ∀ w ∈ Wall, w.before _ s = true := fun w h => hts0 w (List.mem_cons_of_mem _ h)
  have hown : s.vm.findClass y.cls = some m.cls := findClass_of_methodNamed B.named
  have hlocks := B.notSynchronized
  subst hsz
  have hD := hD0.self (sz := s.heap.size)
  have hS : va_S (va_A (Wx u).1 s.heap.size) s.heap s.heap [] := va_S.rf
  have hl := lv_entry av (n := mL) hav
  rw [lg_entry_eq]
  have hfin : ∀ (u9 : S) (pc : Nat) (ls : Array Slot) (v : Option Value) (H : Heap) (locs : List Loc), retOk cc pc ret v → post v u9 → (Wx u9).2.1 ≤ mc → (Wx u9).2.2 ≤ ms → va_P D vwCl (Wx u9).1 H → va_D (va_A (Wx u).1 s.heap.size) (Wx u9).1 → va_S (va_A (Wx u).1 s.heap.size) s.heap H locs → W p l e { frames := fr, cells := mc, slots := ms, locals := lo } s m av.toArray below meth c H locs (Wx u9).2.1 (Wx u9).2.2 (MQ below (QW Wx D κ (va_A (Wx u).1 s.heap.size) post) av.toArray s mc ms (va_A (Wx u).1 s.heap.size)) (F0 m pc ls v.toList) := by
    intro u9 pc ls v H locs hret hp h1 h2 hP hD hS
    refine W.widen h1 h2 ?_
    have hq : ∀ t : State, t.heap = H → s.WarmedH t.vm → QW Wx D κ (va_A (Wx u).1 s.heap.size) post av.toArray s (.returned v) t := fun t ht hW => ⟨⟨v, u9, rfl, hp, by rw [ht]; exact hP, va_K.moved hW.alike hK, hD⟩, hS.F ht⟩
    rcases hret with ⟨rfl, hn, hdg⟩ | ⟨x, ty, rfl, hn, hnar, hdg⟩ | ⟨x, rfl, hn, hdg⟩ | ⟨x, rfl, hn, hdg⟩ | ⟨x, rt, rfl, hn, hrt, hdg⟩
    · exact W.vret hx hb (hr.trans hn) hq hS.2.2 hdg
    · exact W.zret hx hb (hr.trans hn) hnar hq hS.2.2 hdg
    · exact W.lret hx hb (hr.trans hn) hq hS.2.2 hdg
    · exact W.dret hx hb (hr.trans hn) hq hS.2.2 hdg
    · exact W.aret hx hb (hr.trans hn) hrt (Or.inr ⟨x, rfl⟩) hq hS.2.2 hdg
  have h := body _ ⟨p, e, s, m, av.toArray, below, meth, c, va_A (Wx u).1 s.heap.size, _, rfl, hx, hb, hml, hown, hts, hK, hE, fun q hq => Or.inr hq, hfin, (name_of_methodNamed B.named B.method).1⟩ _ hl s.heap [] hP hD hS
  rw [hu0] at h
  exact h
section ROWS2
variable {l : Launch} {D : va_G} {κ : Nat → Nat} {ε : EE} {own : String} {cc : ByteArray} {mL : Nat} {ret : Option FieldType} {R : Room} {post : Option Value → DS → Prop} {Γ : DS → Nat → Array Slot → List Value → Prop} {ws : va_W} {c9 s9 : Nat} {pc : Nat} {L : List (Nat × Value)} {st : List Value}
theorem w_perm (h : Cx Wd l D κ ε own cc mL ret R post Γ) {w1 w2 : va_W} (hp : ws.Perm (w1 ++ w2)) (k : WW Γ mL (w1, c9, s9) pc L st) : WW Γ mL (ws, c9, s9) pc L st := by
  obtain ⟨p, e, s, m, args, below, meth, c, A, Q, rfl, hx, hb, hml, hown, hts, hK, hE, hA, hfin⟩ := h
  intro ls hl H locs hP hD hS
  exact k ls hl H locs (P_perm hp hP) (D_perm hp hD) hS
theorem w_pick (h : Cx Wd l D κ ε own cc mL ret R post Γ) {w1 : va_W} (is : List Nat) (hn : va_nd is = true) (hs : is.map (fun i => ws[i]?) = w1.map some) (k : WW Γ mL (w1, c9, s9) pc L st) : WW Γ mL (ws, c9, s9) pc L st := by
  obtain ⟨p, e, s, m, args, below, meth, c, A, Q, rfl, hx, hb, hml, hown, hts, hK, hE, hA, hfin⟩ := h
  intro ls hl H locs hP hD hS
  refine k ls hl H locs ?_ (hD.sub is hn hs) hS
  refine hP.sub is ?_
  have e : is.filterMap (fun i => ws[i]?) = (is.map (fun i => ws[i]?)).filterMap id := by rw [List.filterMap_map]; rfl
  rw [e, hs, List.filterMap_map]
  exact List.filterMap_some
theorem w_new (h : Cx Wd l D κ ε own cc mL ret R post Γ) {C : String} {T : u_T} {N ci index : Nat} (hin : ∀ w ∈ u_ws C T N, w ∈ Wall) (ty : Nat → FieldType) (hty : ∀ k, k < N → parseFieldDescriptor (T k).2.2.1 = some (ty k)) (hcl : Cond.classLink own index C ∈ Wall) (hinst : Cond.instantiable C N ∈ Wall) (hini : Cond.initialized C ∈ Wall) (hc : vwCl[ci]? = some (C, T, N)) {fs : List Value} (hfs : ∀ j, j < N → defaultValue (ty j) = vp_V fs j) (hcells : c9 + 1 ≤ R.cells) (hslots : s9 + N ≤ R.slots) (d : decode cc pc = .ok (.new index, 3)) (k : ∀ q : Nat, WW Γ mL (ws ++ [(q, .inr (ci, fs))], c9 + 1, s9 + N) (pc + 3) L (.ref q :: st)) : WW Γ mL (ws, c9, s9) pc L st := by
  obtain ⟨p, e, s, m, args, below, meth, c, A, Q, rfl, hx, hb, hml, hown, hts, hK, hE, hA, hfin⟩ := h
  intro ls hl H locs hP hD hS
  exact va_new hx hb hts hin ty hty hown (hts _ hcl) (hts _ hinst) (hts _ hini) hK hP hD hS hA hc hfs hcells hslots d (fun q H hP hD hS => k q ls hl H locs hP hD hS)
theorem w_newa (h : Cx Wd l D κ ε own cc mL ret R post Γ) {atype : ArrayType} {ty : FieldType} (hty : newarray.typeOf atype = ty) (harr : Cond.arrayClass ty ∈ Wall) {t0 : Nat} {cy : ClassId} (ht : (tys κ)[t0]? = some (cy, ty)) {z : Int} {N' : Nat} (hz : z = (N' : Int)) (hN : N' < 134217728) {a0 : vp_A} (ha : ∀ cA : ClassId, vp_cell cA a0 = arrV cA N' (fun _ => defaultValue ty)) (hby : componentBytes ty ≤ 4) (hcells : c9 + 1 ≤ R.cells) (hslots : s9 + N' ≤ R.slots) (d : decode cc pc = .ok (.newarray atype, 2)) (k : ∀ q : Nat, WW Γ mL (ws ++ [(q, .inl (cy, a0))], c9 + 1, s9 + N') (pc + 2) L (.ref q :: st)) : WW Γ mL (ws, c9, s9) pc L (.int (iI z) :: st) := by
  obtain ⟨p, e, s, m, args, below, meth, c, A, Q, rfl, hx, hb, hml, hown, hts, hK, hE, hA, hfin⟩ := h
  intro ls hl H locs hP hD hS
  subst hz
  refine va_newa (ty := ty) (N' := N') (a0 := a0) hx hb (hts _ (by rw [hty]; exact harr)) hty hK hP hD hS hA ha ?_ (by rw [iI_clamp (by omega) (by omega)]; rfl) ?_ hcells hslots d (fun q cA H hKn hP hD hS => ?_)
  · rw [show (0 : Int32) = iI 0 from rfl, iI_lt (by omega) (by omega)]; omega
  · exact Nat.le_trans (Nat.mul_le_mul_left _ hby) (by omega)
  · obtain rfl : cA = cy := K_one hKn ht
    exact k q ls hl H locs hP hD hS
theorem w_newq (h : Cx Wd l D κ ε own cc mL ret R post Γ) {C : String} {index : Nat} (hcl : Cond.classLink own index C ∈ Wall) (hAO : ∀ U : State, Wn U → va_AO C U) {t0 : Nat} {cy : ClassId} (ht : (tys κ)[t0]? = some (cy, .object C)) {z : Int} {N' : Nat} (hz : z = (N' : Int)) (hN : N' < 134217728) (hcells : c9 + 1 ≤ R.cells) (hslots : s9 + N' ≤ R.slots) (d : decode cc pc = .ok (.anewarray index, 3)) (k : ∀ q : Nat, WW Γ mL (ws ++ [(q, .inl (cy, N', .inr (.inr (.inr (.inr (fun _ => none))))))], c9 + 1, s9 + N') (pc + 3) L (.ref q :: st)) : WW Γ mL (ws, c9, s9) pc L (.int (iI z) :: st) := by
  obtain ⟨p, e, s, m, args, below, meth, c, A, Q, rfl, hx, hb, hml, hown, hts, hK, hE, hA, hfin⟩ := h
  intro ls hl H locs hP hD hS
  subst hz
  refine va_newq (C := C) (N' := N') hx hb hown (hts _ hcl) (hAO s hE.2.2) hK hP hD hS hA ?_ (by rw [iI_clamp (by omega) (by omega)]; rfl) (by omega) hcells hslots d (fun q cA H hKn hP hD hS => ?_)
  · rw [show (0 : Int32) = iI 0 from rfl, iI_lt (by omega) (by omega)]; omega
  · obtain rfl : cA = cy := K_one hKn ht
    exact k q ls hl H locs hP hD hS
theorem w_newr (h : Cx Wd l D κ ε own cc mL ret R post Γ) {index : Nat} (hcl : Cond.classLink own index "[I" ∈ Wall) {z : Int} {N' : Nat} (hz : z = (N' : Int)) (hN : N' < 134217728) (hcells : c9 + 1 ≤ R.cells) (hslots : s9 + N' ≤ R.slots) (d : decode cc pc = .ok (.anewarray index, 3)) (k : ∀ q : Nat, WW Γ mL (ws ++ [(q, .inl (κ 3, N', .inr (.inr (.inr (.inr (fun _ => none))))))], c9 + 1, s9 + N') (pc + 3) L (.ref q :: st)) : WW Γ mL (ws, c9, s9) pc L (.int (iI z) :: st) := by
  obtain ⟨p, e, s, m, args, below, meth, c, A, Q, rfl, hx, hb, hml, hown, hts, hK, hE, hA, hfin⟩ := h
  intro ls hl H locs hP hD hS
  subst hz
  have en : (iI (N' : Int)).toNatClampNeg = N' := by rw [iI_clamp (by omega) (by omega)]; rfl
  refine W.anewA (t := .int) hx hb hown (hts _ hcl) (va_AOA.use hE.2.2.2.2.2.2.2.2.2) (g := F0 m pc ls (.int (iI (N' : Int)) :: st)) rfl d rfl ?_ (by rw [en]; omega) hcells (by rw [en]; exact hslots) (fun cA kA comp f1 f2 f3 f4 => ?_)
  · rw [show (0 : Int32) = iI 0 from rfl, iI_lt (by omega) (by omega)]; omega
  · obtain rfl : cA = κ 3 := Option.some.inj (f1.symm.trans (show s.vm.findClass _ = some (κ 3) from (hK.2 3 _ rfl).2))
    rw [en]
    generalize hH1 : H.push ({ cls := κ 3, slots := Array.replicate N' .null, vm := .none } : Cell) = H1
    have z1 : H1.size = H.size + 1 := by rw [← hH1, Array.size_push]
    have e1 : H1[H.size]? = some (arrV (κ 3) N' (fun _ => .null)) := by rw [← hH1, Array.getElem?_push_size, ← arrV_new]
    have o1 : ∀ q : Nat, q < H.size → H1[q]? = H[q]? := fun q hq => by rw [← hH1, Array.getElem?_push, if_neg (Nat.ne_of_lt hq)]
    refine k H.size ls hl H1 locs ((hP.kept (fun k x hx => o1 x.1 ((hP k x hx).lt))).app (fun k x hx => ?_)) (hD.push hP rfl (hA _ hS.1)) ⟨Nat.le_trans hS.1 (by omega), fun x h1 h2 => (o1 x (Nat.lt_of_lt_of_le h1 hS.1)).trans (hS.2.1 x h1 h2), hS.2.2⟩
    have hz : k < 1 := (List.getElem?_eq_some_iff.mp hx).1
    rw [show k = 0 by omega] at hx
    cases hx
    exact e1
theorem w_objInit (h : Cx Wd l D κ ε own cc mL ret R post Γ) {idx a : Nat} (hlink : Cond.methodLink own idx objectInit ∈ Wall) (hinst : Cond.instanceMethod objectInit ∈ Wall) (hcode : Cond.code objectInit ⟨#[0xb1]⟩ 1 none ∈ Wall) (hfr : 1 ≤ R.frames) (hlo : (st.map fun v => v.category).sum + 12 ≤ R.locals) (d : decode cc pc = .ok (.invokespecial idx, 3)) (k : WW Γ mL (ws, c9, s9) (pc + 3) L st) : WW Γ mL (ws, c9, s9) pc L (.ref a :: st) := by
  obtain ⟨p, e, s, m, args, below, meth, c, A, Q, rfl, hx, hb, hml, hown, hts, hK, hE, hA, hfin⟩ := h
  intro ls hl H locs hP hD hS
  refine W.objInit hx hb hown (hts _ hlink) (hts _ hinst) (hts _ hcode) rfl (by rw [hml]; exact hl.1) rfl d hfr (by show 2 * 0 + _ + 12 ≤ _; omega) ?_
  refine W.eq (g2 := F0 m (pc + 3) ls st) rfl ?_
  exact k ls hl H locs hP hD hS
theorem w_putF (h : Cn Wd l D κ ε own cc mL ret R post Γ "<init>") {ref C : String} {T : u_T} {N ci index a : Nat} (hin : ∀ w ∈ u_ws C T N, w ∈ Wall) (ty0 : Nat → FieldType) (hty : ∀ k, k < N → parseFieldDescriptor (T k).2.2.1 = some (ty0 k)) (hnm : ∀ a, a < N → ∀ b, b < N → a ≠ b → (T a).2.1 ≠ (T b).2.1) (q0 : Nat) {fs : List Value} (he : ws[q0]? = some (a, .inr (ci, fs))) (hc : vwCl[ci]? = some (C, T, N)) (kf : Nat) (hk : kf < N) (hlink : Cond.fieldLink own index ref (T kf).2.1 (T kf).2.2.1 ∈ Wall) (hsame : (T kf).1 = ref) (hfin : (T kf).2.2.2 = true) (hdecl : (T kf).1 = own) {ty : FieldType} {v : Value} (hd : parseFieldDescriptor (T kf).2.2.1 = some ty) (hn : narrow ty v = v) (hfit : fits ty v = true) (hl9 : kf < fs.length) (d : decode cc pc = .ok (.putfield index, 3)) (k : WW Γ mL (ws.set q0 (a, .inr (ci, fs.set kf v)), c9, s9) (pc + 3) L st) : WW Γ mL (ws, c9, s9) pc L (v :: .ref a :: st) := by
  obtain ⟨p, e, s, m, args, below, meth, c, A, Q, rfl, hx, hb, hml, hown, hts, hK, hE, hA, hfin9, hnm9⟩ := h
  intro ls hl H locs hP hD hS
  exact va_putF hx hb hts hin ty0 hty hnm hown hK hP hD hS q0 he hc kf hk (hts _ hlink) (fun _ h9 => by rw [← hsame]; exact h9) hfin hnm9 hdecl hd hn hfit hl9 d (fun H locs hP hD hS => k ls hl H locs hP hD hS)
theorem w_putD (h : Cx Wd l D κ ε own cc mL ret R post Γ) {ref C : String} {T : u_T} {N ci index a : Nat} (hin : ∀ w ∈ u_ws C T N, w ∈ Wall) (ty0 : Nat → FieldType) (hty : ∀ k, k < N → parseFieldDescriptor (T k).2.2.1 = some (ty0 k)) (hnm : ∀ a, a < N → ∀ b, b < N → a ≠ b → (T a).2.1 ≠ (T b).2.1) (q0 : Nat) {fs : List Value} (he : ws[q0]? = some (a, .inr (ci, fs))) (hc : vwCl[ci]? = some (C, T, N)) (kf : Nat) (hk : kf < N) (hlink : Cond.fieldLink own index ref (T kf).2.1 (T kf).2.2.1 ∈ Wall) (hsame : (T kf).1 = ref) (hfin : (T kf).2.2.2 = false) {ty : FieldType} {v : Value} (hd : parseFieldDescriptor (T kf).2.2.1 = some ty) (hn : narrow ty v = v) (hfit : fits ty v = true) (hl9 : kf < fs.length) (d : decode cc pc = .ok (.putfield index, 3)) (k : WW Γ mL (ws.set q0 (a, .inr (ci, fs.set kf v)), c9, s9) (pc + 3) L st) : WW Γ mL (ws, c9, s9) pc L (v :: .ref a :: st) :=
  w_put h hin ty0 hty hnm q0 he hc kf hk hlink hsame hfin hd hn hfit hl9 d (ws.set q0 (a, .inr (ci, fs.set kf v)), c9, s9) rfl rfl k
theorem w_aast (h : Cx Wd l D κ ε own cc mL ret R post Γ) {a v : Nat} (q0 qk ci : Nat) {r : vw_C} {n t0 : Nat} {cA : ClassId} {vs : List Value} {f : Nat → Option Nat} (ha : ws[q0]? = some (a, .inl (cA, n, .inr (.inr (.inr (.inr f)))))) (ht : (tys κ)[t0]? = some (cA, .object r.1)) (hv : ws[qk]? = some (v, .inr (ci, vs))) (hc : vwCl[ci]? = some r) {i : Int} (hi : 0 ≤ i ∧ i < n) (hn : n < 2147483648) (d : decode cc pc = .ok (.aastore, 1)) (k : WW Γ mL (ws.set q0 (a, .inl (cA, n, .inr (.inr (.inr (.inr (va_up f i.toNat (some v))))))), c9, s9) (pc + 1) L st) : WW Γ mL (ws, c9, s9) pc L (.ref v :: .int (iI i) :: .ref a :: st) := by
  obtain ⟨p, e, s, m, args, below, meth, c, A, Q, rfl, hx, hb, hml, hown, hts, hK, hE, hA, hfin⟩ := h
  intro ls hl H locs hP hD hS
  refine va_astq (f := f) (n := n) hx hb hK hP hD hS q0 t0 qk ci ha ht hv hc (iI_in hi hn) d (fun H locs hP hD hS => ?_)
  rw [iI_clamp hi.1 (by omega)] at hP hD
  exact k ls hl H locs hP hD hS
/-- rows of ints in an array of them -/
theorem w_rowOk {s : State} {D : va_G} {κ : Nat → Nat} (hK : va_K D vwCl (tys κ) s) (h : va_AOA .int s) : ∃ k : Class, s.vm.classes[κ 3]? = some k ∧ k.kind = .array (κ 0) (.array .int) := by
  obtain ⟨comp, c, k, h1, -, h2, h3, h4⟩ := arrayOverA_spec (va_AOA.use (A := #[]) h)
  obtain rfl : c = κ 3 := Option.some.inj (h4.symm.trans (show s.vm.findClass _ = some (κ 3) from (hK.2 3 _ rfl).2))
  obtain rfl : comp = κ 0 := Option.some.inj (h1.symm.trans (show s.vm.findClass _ = some (κ 0) from (hK.2 0 _ rfl).2))
  exact ⟨k, h2, h3⟩
theorem w_rast (h : Cx Wd l D κ ε own cc mL ret R post Γ) {a v : Nat} (q0 qk : Nat) {n m9 : Nat} {f : Nat → Option Nat} {g9 : Nat → Int32} (ha : ws[q0]? = some (a, .inl (κ 3, n, .inr (.inr (.inr (.inr f)))))) (hv : ws[qk]? = some (v, .inl (κ 0, m9, .inl g9))) {i : Int} (hi : 0 ≤ i ∧ i < n) (hn : n < 2147483648) (d : decode cc pc = .ok (.aastore, 1)) (k : WW Γ mL (ws.set q0 (a, .inl (κ 3, n, .inr (.inr (.inr (.inr (va_up f i.toNat (some v))))))), c9, s9) (pc + 1) L st) : WW Γ mL (ws, c9, s9) pc L (.ref v :: .int (iI i) :: .ref a :: st) := by
  obtain ⟨p, e, s, m, args, below, meth, c, A, Q, rfl, hx, hb, hml, hown, hts, hK, hE, hA, hfin⟩ := h
  intro ls hl H locs hP hD hS
  obtain ⟨kA, k1, k2⟩ := w_rowOk hK hE.2.2.2.2.2.2.2.2.2
  have hc0 : s.vm.findClass ("[" ++ FieldType.int.toString) = some (κ 0) := (hK.2 0 _ rfl).2
  obtain ⟨kC, hkC, -⟩ := Vm.findClass_spec hc0
  have hin := iI_in hi hn
  have e0 : (iI i).toNatClampNeg = i.toNat := iI_clamp hi.1 (by omega)
  have hlt : i.toNat < n := by omega
  refine W.aast hx hb (hP q0 _ ha) (fun q h => by cases h) (fun h => by cases h) k1 k2 rfl hkC ⟨fun q => hin (Or.inl q), by show _ < (arrV _ _ _).slots.size; rw [arrV_size, e0]; exact hlt⟩ (hP qk _ hv) (fun q h => by cases h) hkC (va_asg _ _) (g := F0 m pc ls (.ref v :: .int (iI i) :: .ref a :: st)) rfl rfl d (fun H1 e z oq => ?_)
  refine k ls hl H1 _ (hP.set hD ha ?_ oq) (hD.set ha) (hS.put z oq (hD.2 q0 _ ha))
  show H1[a]? = some (vp_cell _ _)
  rw [e, e0]
  rw [vp_cell_q, vp_cell_q, arrV_store]
  congr 2
  funext q
  by_cases hq : q = i.toNat
  · subst hq
    simp [updV, va_up, va_rf]
  · simp [updV, va_up, hq]
theorem w_rald (h : Cx Wd l D κ ε own cc mL ret R post Γ) {a : Nat} (q0 : Nat) {n : Nat} {f : Nat → Option Nat} (he : ws[q0]? = some (a, .inl (κ 3, n, .inr (.inr (.inr (.inr f)))))) {i : Int} (hi : 0 ≤ i ∧ i < n) (hn : n < 2147483648) {b : Nat} (hv : f i.toNat = some b) (d : decode cc pc = .ok (.aaload, 1)) (k : WW Γ mL (ws, c9, s9) (pc + 1) L (.ref b :: st)) : WW Γ mL (ws, c9, s9) pc L (.int (iI i) :: .ref a :: st) := by
  obtain ⟨p, e, s, m, args, below, meth, c, A, Q, rfl, hx, hb, hml, hown, hts, hK, hE, hA, hfin⟩ := h
  intro ls hl H locs hP hD hS
  have hin := iI_in hi hn
  have e0 : (iI i).toNatClampNeg = i.toNat := iI_clamp hi.1 (by omega)
  have hlt : i.toNat < n := by omega
  refine W.aald (v := .ref b) (ty := .array .int) hx hb (hP q0 _ he) ((hK.2 3 _ rfl).1 n (fun j => va_rf (f j))) rfl (fun h => by cases h) (by show ¬ (_ ∨ (arrV _ _ _).slots.size ≤ _); rw [arrV_size]; exact hin) (by show (arrV _ _ _).slots[_]? = _; rw [e0, arrV_read _ _ hlt, hv]; rfl) (g := F0 m pc ls (.int (iI i) :: .ref a :: st)) rfl rfl d ?_
  exact k ls hl H locs hP hD hS
/-- a cell that is told otherwise, its places the same -/
theorem w_eqc (h : Cx Wd l D κ ε own cc mL ret R post Γ) (q0 : Nat) {a : Nat} {cA : ClassId} {x y : vp_A} (he : ws[q0]? = some (a, .inl (cA, x))) (hxy : vp_cell cA x = vp_cell cA y) {w1 : va_W} (hs : ws.set q0 (a, .inl (cA, y)) = w1) (k : WW Γ mL (w1, c9, s9) pc L st) : WW Γ mL (ws, c9, s9) pc L st := by
  obtain ⟨p, e, s, m, args, below, meth, c, A, Q, rfl, hx, hb, hml, hown, hts, hK, hE, hA, hfin⟩ := h
  intro ls hl H locs hP hD hS
  subst hs
  exact k ls hl H locs (P_cg q0 hP he hxy rfl) (hD.set he) hS
theorem w_mna (h : Cx Wd l D κ ε own cc mL ret R post Γ) {index : Nat} (hcl : Cond.classLink own index "[[I" ∈ Wall) (harr : Cond.arrayClass .int ∈ Wall) {N' K' : Nat} (hN : N' < 10000) (hK9 : K' < 10000) (hcells : c9 + (1 + N') ≤ R.cells) (hslots : s9 + (N' + N' * K') ≤ R.slots) (d : decode cc pc = .ok (.multianewarray index 2, 4)) (k : ∀ (q : Nat) (r : Nat → Nat), WW Γ mL ((ws ++ [(q, .inl (κ 3, N', .inr (.inr (.inr (.inr (fun i => if i < N' then some (r i) else none))))))]) ++ (List.range N').map (fun i => (r i, .inl (κ 0, K', .inl (fun _ => 0)))), c9 + 1 + N', s9 + N' + N' * K') (pc + 4) L (.ref q :: st)) : WW Γ mL (ws, c9, s9) pc L (.int (iI (K' : Int)) :: .int (iI (N' : Int)) :: st) := by
  obtain ⟨p, e, s, m, args, below, meth, c, A, Q, rfl, hx, hb, hml, hown, hts, hK, hE, hA, hfin⟩ := h
  intro ls hl H locs hP hD hS
  have en : ∀ n : Nat, n < 10000 → ¬ iI (n : Int) < 0 ∧ (iI (n : Int)).toNatClampNeg = n := fun n hn => ⟨by rw [show (0 : Int32) = iI 0 from rfl, iI_lt (by omega) (by omega)]; omega, by rw [iI_clamp (by omega) (by omega)]; rfl⟩
  have hP9 : va_P D vwCl (ws ++ va_pl [] (fun _ => .inr (0, []))) H := by
    show va_P D vwCl (ws ++ []) H
    rw [List.append_nil]; exact hP
  have hD9 : va_D A (ws ++ va_pl [] (fun _ => .inr (0, []))) := by
    show va_D A (ws ++ [])
    rw [List.append_nil]; exact hD
  refine va_mna (X := ws) (L := []) (f := fun _ => .inr (0, [])) (ty := .int) (cy := κ 0) (N' := N') (K' := K') (z := (K', .inl (fun _ => 0))) hx hb hown (hts _ hcl) hE.2.2.2.2.2.2.2.2.2 (hts _ harr) (show s.vm.findClass _ = some (κ 0) from (hK.2 0 _ rfl).2) hK hP9 hD9 hS hA (en N' hN).1 (en K' hK9).1 (en N' hN).2 (en K' hK9).2 (by omega) (by show K' * 4 ≤ _; omega) (by omega) rfl rfl hcells hslots (fun cz => arrV_new cz K' (.int 0)) d (fun q r cA H _ _ hKn hP hD hS => ?_)
  obtain rfl : cA = κ 3 := K_one hKn (i := 3) rfl
  have e : va_pl ([] ++ (List.range N').map r) (vr_up (fun _ => .inr (0, [])) ((List.range N').map r) (.inl (κ 0, K', .inl (fun _ => 0)))) = (List.range N').map (fun i => (r i, .inl (κ 0, K', .inl (fun _ => 0)))) := by
    rw [← vr_rows (fun a _ h => absurd h List.not_mem_nil)]
    show [] ++ _ = _
    rw [List.nil_append, List.map_map]
    rfl
  rw [e] at hP hD
  exact k q r ls hl H locs hP hD hS

theorem w_fV0 (h : Cx Wd l D κ ε own cc mL ret R post Γ) {S : Type} {Wx : S → va_W × Nat × Nat} {y : MethodName} {cy : ByteArray} {mLy : Nat} {rety : Option FieldType} {fr lo mc ms index : Nat} {ps : Option Value → S → Prop} {u : S} {C : String} {T9 : u_T} {N9 ci b : Nat} {fs : List Value} (hc : Ct Wx l D κ ε y cy mLy rety fr lo mc ms u [.ref b] ps) {wr : va_W} (hp : ws.Perm (wr ++ (Wx u).1)) (q0 : Nat) (hq : (Wx u).1[q0]? = some (b, .inr (ci, fs))) (hcl : vwCl[ci]? = some (C, T9, N9)) (hG : GoodIn Wall (wsV own index C y (Cond.code y cy mLy rety :: Wall))) (hd : y.cls = C ∧ y.cls ≠ "java/lang/invoke/MethodHandle" ∧ y.cls ≠ "java/lang/invoke/VarHandle" ∧ (parseMethodDescriptor y.desc).map (fun d => d.parameters.length) = some 0) (hR : fr + 1 ≤ R.frames ∧ 8 + (mLy + 11) + lo ≤ R.locals) (hf : c9 + mc ≤ R.cells ∧ s9 + ms ≤ R.slots) (hW8 : (st.map fun v => v.category).sum ≤ 8) (d : decode cc pc = .ok (.invokevirtual index, 3)) (k : ∀ v u', ps v u' → WW Γ mL (wr ++ (Wx u').1, c9 + mc, s9 + ms) (pc + 3) L (v.toList ++ st)) : WW Γ mL (ws, c9, s9) pc L (.ref b :: st) := by
  obtain ⟨p, e, s, m, args, below, meth, c, A, Q, rfl, hx, hb, hml, hown, hts, hK, hE, hA, hfin⟩ := h
  intro ls hl H locs hP0 hD0 hS
  have hp' : ws.Perm ((wr ++ (Wx u).1) ++ []) := by rw [List.append_nil]; exact hp
  have hP := P_perm hp' hP0
  have hD := D_perm hp' hD0
  have hPc : va_P D vwCl (Wx u).1 H := P_perm List.perm_append_comm hP
  have hDc : va_D A (Wx u).1 := D_perm List.perm_append_comm hD
  have hF : ∀ q, va_A (Wx u).1 H.size q → A q := fun q hq => by
    rcases hq with ⟨i, e9, hi⟩ | hq
    · exact hDc.2 i (q, e9) hi
    · exact hA q (Nat.le_trans hS.1 hq)
  have hpre : ∀ U : State, U.heap = H → s.WarmedH U.vm → va_Pc ([.ref b]) (PreW D κ ε (Wx u).1 H.size) ([.ref b]).toArray U := fun U hU hW => ⟨rfl, by rw [hU], by rw [hU]; exact hPc, va_K.moved hW.alike hK, hDc.weaken (fun _ _ _ _ => trivial), by rw [hU]; exact (((hE.kept hS.2.1).narrow hF).warm hW)⟩
  have hrun : va_Run p l e R s m args below meth c H locs c9 s9 mc ms (F0 m pc ls (.ref b :: st)) st (QW Wx D κ (va_A (Wx u).1 H.size) ps ([.ref b]).toArray) (va_A (Wx u).1 H.size) := va_runV (As := []) ⟨hx, hb, hml, hown, hts⟩ (hc H.size) (cwV 0 hts hG rfl rfl rfl hd hR) ⟨preW_blind, va_recv hK hPc hcl hq, hpre⟩ rfl rfl hl.1 rfl (lv_room hW8) d hf
  intro T hT X
  obtain ⟨v, st₀, t, T', L9, h0, X', hL, e1, e2, ⟨⟨v9, u', hv, hp9, hb1, hb2, hb3⟩, hz, hk⟩, stp⟩ := hrun T hT X
  cases hv
  rw [h0] at hz hk
  have hS1 : va_S A s.heap T'.heap (locs ++ L9) := ⟨Nat.le_trans hS.1 (by rw [e1]; exact hz), fun q h1 h2 => by
      rw [e1, hk q (Nat.lt_of_lt_of_le h1 hS.1) (fun z => h2 (hF q z))]
      exact hS.2.1 q h1 h2, fun q hq => by
      rcases List.mem_append.mp hq with h | h
      · exact hS.2.2 q h
      · exact hF _ (hL q h)⟩
  obtain ⟨hj1, hj2⟩ := w_join hP hD hk hF hb1 hb3
  rw [← e1] at hj1
  obtain ⟨t2, a1, b1⟩ := k v u' hp9 ls hl T'.heap (locs ++ L9) hj1 hj2 hS1 T' rfl X'
  exact ⟨t2, stp t2 a1, b1⟩
theorem w_fV1 (h : Cx Wd l D κ ε own cc mL ret R post Γ) {S : Type} {Wx : S → va_W × Nat × Nat} {y : MethodName} {cy : ByteArray} {mLy : Nat} {rety : Option FieldType} {fr lo mc ms index : Nat} {ps : Option Value → S → Prop} {u : S} {C : String} {T9 : u_T} {N9 ci b : Nat} {fs : List Value} {x1 : Value} (hc : Ct Wx l D κ ε y cy mLy rety fr lo mc ms u [.ref b, x1] ps) {wr : va_W} (hp : ws.Perm (wr ++ (Wx u).1)) (q0 : Nat) (hq : (Wx u).1[q0]? = some (b, .inr (ci, fs))) (hcl : vwCl[ci]? = some (C, T9, N9)) (hG : GoodIn Wall (wsV own index C y (Cond.code y cy mLy rety :: Wall))) (hd : y.cls = C ∧ y.cls ≠ "java/lang/invoke/MethodHandle" ∧ y.cls ≠ "java/lang/invoke/VarHandle" ∧ (parseMethodDescriptor y.desc).map (fun d => d.parameters.length) = some 1) (hR : fr + 1 ≤ R.frames ∧ 8 + (mLy + 11) + lo ≤ R.locals) (hf : c9 + mc ≤ R.cells ∧ s9 + ms ≤ R.slots) (hW8 : (st.map fun v => v.category).sum ≤ 8) (d : decode cc pc = .ok (.invokevirtual index, 3)) (k : ∀ v u', ps v u' → WW Γ mL (wr ++ (Wx u').1, c9 + mc, s9 + ms) (pc + 3) L (v.toList ++ st)) : WW Γ mL (ws, c9, s9) pc L (x1 :: .ref b :: st) := by
  obtain ⟨p, e, s, m, args, below, meth, c, A, Q, rfl, hx, hb, hml, hown, hts, hK, hE, hA, hfin⟩ := h
  intro ls hl H locs hP0 hD0 hS
  have hp' : ws.Perm ((wr ++ (Wx u).1) ++ []) := by rw [List.append_nil]; exact hp
  have hP := P_perm hp' hP0
  have hD := D_perm hp' hD0
  have hPc : va_P D vwCl (Wx u).1 H := P_perm List.perm_append_comm hP
  have hDc : va_D A (Wx u).1 := D_perm List.perm_append_comm hD
  have hF : ∀ q, va_A (Wx u).1 H.size q → A q := fun q hq => by
    rcases hq with ⟨i, e9, hi⟩ | hq
    · exact hDc.2 i (q, e9) hi
    · exact hA q (Nat.le_trans hS.1 hq)
  have hpre : ∀ U : State, U.heap = H → s.WarmedH U.vm → va_Pc ([.ref b, x1]) (PreW D κ ε (Wx u).1 H.size) ([.ref b, x1]).toArray U := fun U hU hW => ⟨rfl, by rw [hU], by rw [hU]; exact hPc, va_K.moved hW.alike hK, hDc.weaken (fun _ _ _ _ => trivial), by rw [hU]; exact (((hE.kept hS.2.1).narrow hF).warm hW)⟩
  have hrun : va_Run p l e R s m args below meth c H locs c9 s9 mc ms (F0 m pc ls (x1 :: .ref b :: st)) st (QW Wx D κ (va_A (Wx u).1 H.size) ps ([.ref b, x1]).toArray) (va_A (Wx u).1 H.size) := va_runV (As := [x1]) ⟨hx, hb, hml, hown, hts⟩ (hc H.size) (cwV 1 hts hG rfl rfl rfl hd hR) ⟨preW_blind, va_recv hK hPc hcl hq, hpre⟩ rfl rfl hl.1 rfl (lv_room hW8) d hf
  intro T hT X
  obtain ⟨v, st₀, t, T', L9, h0, X', hL, e1, e2, ⟨⟨v9, u', hv, hp9, hb1, hb2, hb3⟩, hz, hk⟩, stp⟩ := hrun T hT X
  cases hv
  rw [h0] at hz hk
  have hS1 : va_S A s.heap T'.heap (locs ++ L9) := ⟨Nat.le_trans hS.1 (by rw [e1]; exact hz), fun q h1 h2 => by
      rw [e1, hk q (Nat.lt_of_lt_of_le h1 hS.1) (fun z => h2 (hF q z))]
      exact hS.2.1 q h1 h2, fun q hq => by
      rcases List.mem_append.mp hq with h | h
      · exact hS.2.2 q h
      · exact hF _ (hL q h)⟩
  obtain ⟨hj1, hj2⟩ := w_join hP hD hk hF hb1 hb3
  rw [← e1] at hj1
  obtain ⟨t2, a1, b1⟩ := k v u' hp9 ls hl T'.heap (locs ++ L9) hj1 hj2 hS1 T' rfl X'
  exact ⟨t2, stp t2 a1, b1⟩
theorem w_fV2 (h : Cx Wd l D κ ε own cc mL ret R post Γ) {S : Type} {Wx : S → va_W × Nat × Nat} {y : MethodName} {cy : ByteArray} {mLy : Nat} {rety : Option FieldType} {fr lo mc ms index : Nat} {ps : Option Value → S → Prop} {u : S} {C : String} {T9 : u_T} {N9 ci b : Nat} {fs : List Value} {x1 x2 : Value} (hc : Ct Wx l D κ ε y cy mLy rety fr lo mc ms u [.ref b, x1, x2] ps) {wr : va_W} (hp : ws.Perm (wr ++ (Wx u).1)) (q0 : Nat) (hq : (Wx u).1[q0]? = some (b, .inr (ci, fs))) (hcl : vwCl[ci]? = some (C, T9, N9)) (hG : GoodIn Wall (wsV own index C y (Cond.code y cy mLy rety :: Wall))) (hd : y.cls = C ∧ y.cls ≠ "java/lang/invoke/MethodHandle" ∧ y.cls ≠ "java/lang/invoke/VarHandle" ∧ (parseMethodDescriptor y.desc).map (fun d => d.parameters.length) = some 2) (hR : fr + 1 ≤ R.frames ∧ 8 + (mLy + 11) + lo ≤ R.locals) (hf : c9 + mc ≤ R.cells ∧ s9 + ms ≤ R.slots) (hW8 : (st.map fun v => v.category).sum ≤ 8) (d : decode cc pc = .ok (.invokevirtual index, 3)) (k : ∀ v u', ps v u' → WW Γ mL (wr ++ (Wx u').1, c9 + mc, s9 + ms) (pc + 3) L (v.toList ++ st)) : WW Γ mL (ws, c9, s9) pc L (x2 :: x1 :: .ref b :: st) := by
  obtain ⟨p, e, s, m, args, below, meth, c, A, Q, rfl, hx, hb, hml, hown, hts, hK, hE, hA, hfin⟩ := h
  intro ls hl H locs hP0 hD0 hS
  have hp' : ws.Perm ((wr ++ (Wx u).1) ++ []) := by rw [List.append_nil]; exact hp
  have hP := P_perm hp' hP0
  have hD := D_perm hp' hD0
  have hPc : va_P D vwCl (Wx u).1 H := P_perm List.perm_append_comm hP
  have hDc : va_D A (Wx u).1 := D_perm List.perm_append_comm hD
  have hF : ∀ q, va_A (Wx u).1 H.size q → A q := fun q hq => by
    rcases hq with ⟨i, e9, hi⟩ | hq
    · exact hDc.2 i (q, e9) hi
    · exact hA q (Nat.le_trans hS.1 hq)
  have hpre : ∀ U : State, U.heap = H → s.WarmedH U.vm → va_Pc ([.ref b, x1, x2]) (PreW D κ ε (Wx u).1 H.size) ([.ref b, x1, x2]).toArray U := fun U hU hW => ⟨rfl, by rw [hU], by rw [hU]; exact hPc, va_K.moved hW.alike hK, hDc.weaken (fun _ _ _ _ => trivial), by rw [hU]; exact (((hE.kept hS.2.1).narrow hF).warm hW)⟩
  have hrun : va_Run p l e R s m args below meth c H locs c9 s9 mc ms (F0 m pc ls (x2 :: x1 :: .ref b :: st)) st (QW Wx D κ (va_A (Wx u).1 H.size) ps ([.ref b, x1, x2]).toArray) (va_A (Wx u).1 H.size) := va_runV (As := [x1, x2]) ⟨hx, hb, hml, hown, hts⟩ (hc H.size) (cwV 2 hts hG rfl rfl rfl hd hR) ⟨preW_blind, va_recv hK hPc hcl hq, hpre⟩ rfl rfl hl.1 rfl (lv_room hW8) d hf
  intro T hT X
  obtain ⟨v, st₀, t, T', L9, h0, X', hL, e1, e2, ⟨⟨v9, u', hv, hp9, hb1, hb2, hb3⟩, hz, hk⟩, stp⟩ := hrun T hT X
  cases hv
  rw [h0] at hz hk
  have hS1 : va_S A s.heap T'.heap (locs ++ L9) := ⟨Nat.le_trans hS.1 (by rw [e1]; exact hz), fun q h1 h2 => by
      rw [e1, hk q (Nat.lt_of_lt_of_le h1 hS.1) (fun z => h2 (hF q z))]
      exact hS.2.1 q h1 h2, fun q hq => by
      rcases List.mem_append.mp hq with h | h
      · exact hS.2.2 q h
      · exact hF _ (hL q h)⟩
  obtain ⟨hj1, hj2⟩ := w_join hP hD hk hF hb1 hb3
  rw [← e1] at hj1
  obtain ⟨t2, a1, b1⟩ := k v u' hp9 ls hl T'.heap (locs ++ L9) hj1 hj2 hS1 T' rfl X'
  exact ⟨t2, stp t2 a1, b1⟩
theorem w_fV3 (h : Cx Wd l D κ ε own cc mL ret R post Γ) {S : Type} {Wx : S → va_W × Nat × Nat} {y : MethodName} {cy : ByteArray} {mLy : Nat} {rety : Option FieldType} {fr lo mc ms index : Nat} {ps : Option Value → S → Prop} {u : S} {C : String} {T9 : u_T} {N9 ci b : Nat} {fs : List Value} {x1 x2 x3 : Value} (hc : Ct Wx l D κ ε y cy mLy rety fr lo mc ms u [.ref b, x1, x2, x3] ps) {wr : va_W} (hp : ws.Perm (wr ++ (Wx u).1)) (q0 : Nat) (hq : (Wx u).1[q0]? = some (b, .inr (ci, fs))) (hcl : vwCl[ci]? = some (C, T9, N9)) (hG : GoodIn Wall (wsV own index C y (Cond.code y cy mLy rety :: Wall))) (hd : y.cls = C ∧ y.cls ≠ "java/lang/invoke/MethodHandle" ∧ y.cls ≠ "java/lang/invoke/VarHandle" ∧ (parseMethodDescriptor y.desc).map (fun d => d.parameters.length) = some 3) (hR : fr + 1 ≤ R.frames ∧ 8 + (mLy + 11) + lo ≤ R.locals) (hf : c9 + mc ≤ R.cells ∧ s9 + ms ≤ R.slots) (hW8 : (st.map fun v => v.category).sum ≤ 8) (d : decode cc pc = .ok (.invokevirtual index, 3)) (k : ∀ v u', ps v u' → WW Γ mL (wr ++ (Wx u').1, c9 + mc, s9 + ms) (pc + 3) L (v.toList ++ st)) : WW Γ mL (ws, c9, s9) pc L (x3 :: x2 :: x1 :: .ref b :: st) := by
  obtain ⟨p, e, s, m, args, below, meth, c, A, Q, rfl, hx, hb, hml, hown, hts, hK, hE, hA, hfin⟩ := h
  intro ls hl H locs hP0 hD0 hS
  have hp' : ws.Perm ((wr ++ (Wx u).1) ++ []) := by rw [List.append_nil]; exact hp
  have hP := P_perm hp' hP0
  have hD := D_perm hp' hD0
  have hPc : va_P D vwCl (Wx u).1 H := P_perm List.perm_append_comm hP
  have hDc : va_D A (Wx u).1 := D_perm List.perm_append_comm hD
  have hF : ∀ q, va_A (Wx u).1 H.size q → A q := fun q hq => by
    rcases hq with ⟨i, e9, hi⟩ | hq
    · exact hDc.2 i (q, e9) hi
    · exact hA q (Nat.le_trans hS.1 hq)
  have hpre : ∀ U : State, U.heap = H → s.WarmedH U.vm → va_Pc ([.ref b, x1, x2, x3]) (PreW D κ ε (Wx u).1 H.size) ([.ref b, x1, x2, x3]).toArray U := fun U hU hW => ⟨rfl, by rw [hU], by rw [hU]; exact hPc, va_K.moved hW.alike hK, hDc.weaken (fun _ _ _ _ => trivial), by rw [hU]; exact (((hE.kept hS.2.1).narrow hF).warm hW)⟩
  have hrun : va_Run p l e R s m args below meth c H locs c9 s9 mc ms (F0 m pc ls (x3 :: x2 :: x1 :: .ref b :: st)) st (QW Wx D κ (va_A (Wx u).1 H.size) ps ([.ref b, x1, x2, x3]).toArray) (va_A (Wx u).1 H.size) := va_runV (As := [x1, x2, x3]) ⟨hx, hb, hml, hown, hts⟩ (hc H.size) (cwV 3 hts hG rfl rfl rfl hd hR) ⟨preW_blind, va_recv hK hPc hcl hq, hpre⟩ rfl rfl hl.1 rfl (lv_room hW8) d hf
  intro T hT X
  obtain ⟨v, st₀, t, T', L9, h0, X', hL, e1, e2, ⟨⟨v9, u', hv, hp9, hb1, hb2, hb3⟩, hz, hk⟩, stp⟩ := hrun T hT X
  cases hv
  rw [h0] at hz hk
  have hS1 : va_S A s.heap T'.heap (locs ++ L9) := ⟨Nat.le_trans hS.1 (by rw [e1]; exact hz), fun q h1 h2 => by
      rw [e1, hk q (Nat.lt_of_lt_of_le h1 hS.1) (fun z => h2 (hF q z))]
      exact hS.2.1 q h1 h2, fun q hq => by
      rcases List.mem_append.mp hq with h | h
      · exact hS.2.2 q h
      · exact hF _ (hL q h)⟩
  obtain ⟨hj1, hj2⟩ := w_join hP hD hk hF hb1 hb3
  rw [← e1] at hj1
  obtain ⟨t2, a1, b1⟩ := k v u' hp9 ls hl T'.heap (locs ++ L9) hj1 hj2 hS1 T' rfl X'
  exact ⟨t2, stp t2 a1, b1⟩
theorem w_fV4 (h : Cx Wd l D κ ε own cc mL ret R post Γ) {S : Type} {Wx : S → va_W × Nat × Nat} {y : MethodName} {cy : ByteArray} {mLy : Nat} {rety : Option FieldType} {fr lo mc ms index : Nat} {ps : Option Value → S → Prop} {u : S} {C : String} {T9 : u_T} {N9 ci b : Nat} {fs : List Value} {x1 x2 x3 x4 : Value} (hc : Ct Wx l D κ ε y cy mLy rety fr lo mc ms u [.ref b, x1, x2, x3, x4] ps) {wr : va_W} (hp : ws.Perm (wr ++ (Wx u).1)) (q0 : Nat) (hq : (Wx u).1[q0]? = some (b, .inr (ci, fs))) (hcl : vwCl[ci]? = some (C, T9, N9)) (hG : GoodIn Wall (wsV own index C y (Cond.code y cy mLy rety :: Wall))) (hd : y.cls = C ∧ y.cls ≠ "java/lang/invoke/MethodHandle" ∧ y.cls ≠ "java/lang/invoke/VarHandle" ∧ (parseMethodDescriptor y.desc).map (fun d => d.parameters.length) = some 4) (hR : fr + 1 ≤ R.frames ∧ 8 + (mLy + 11) + lo ≤ R.locals) (hf : c9 + mc ≤ R.cells ∧ s9 + ms ≤ R.slots) (hW8 : (st.map fun v => v.category).sum ≤ 8) (d : decode cc pc = .ok (.invokevirtual index, 3)) (k : ∀ v u', ps v u' → WW Γ mL (wr ++ (Wx u').1, c9 + mc, s9 + ms) (pc + 3) L (v.toList ++ st)) : WW Γ mL (ws, c9, s9) pc L (x4 :: x3 :: x2 :: x1 :: .ref b :: st) := by
  obtain ⟨p, e, s, m, args, below, meth, c, A, Q, rfl, hx, hb, hml, hown, hts, hK, hE, hA, hfin⟩ := h
  intro ls hl H locs hP0 hD0 hS
  have hp' : ws.Perm ((wr ++ (Wx u).1) ++ []) := by rw [List.append_nil]; exact hp
  have hP := P_perm hp' hP0
  have hD := D_perm hp' hD0
  have hPc : va_P D vwCl (Wx u).1 H := P_perm List.perm_append_comm hP
  have hDc : va_D A (Wx u).1 := D_perm List.perm_append_comm hD
  have hF : ∀ q, va_A (Wx u).1 H.size q → A q := fun q hq => by
    rcases hq with ⟨i, e9, hi⟩ | hq
    · exact hDc.2 i (q, e9) hi
    · exact hA q (Nat.le_trans hS.1 hq)
  have hpre : ∀ U : State, U.heap = H → s.WarmedH U.vm → va_Pc ([.ref b, x1, x2, x3, x4]) (PreW D κ ε (Wx u).1 H.size) ([.ref b, x1, x2, x3, x4]).toArray U := fun U hU hW => ⟨rfl, by rw [hU], by rw [hU]; exact hPc, va_K.moved hW.alike hK, hDc.weaken (fun _ _ _ _ => trivial), by rw [hU]; exact (((hE.kept hS.2.1).narrow hF).warm hW)⟩
  have hrun : va_Run p l e R s m args below meth c H locs c9 s9 mc ms (F0 m pc ls (x4 :: x3 :: x2 :: x1 :: .ref b :: st)) st (QW Wx D κ (va_A (Wx u).1 H.size) ps ([.ref b, x1, x2, x3, x4]).toArray) (va_A (Wx u).1 H.size) := va_runV (As := [x1, x2, x3, x4]) ⟨hx, hb, hml, hown, hts⟩ (hc H.size) (cwV 4 hts hG rfl rfl rfl hd hR) ⟨preW_blind, va_recv hK hPc hcl hq, hpre⟩ rfl rfl hl.1 rfl (lv_room hW8) d hf
  intro T hT X
  obtain ⟨v, st₀, t, T', L9, h0, X', hL, e1, e2, ⟨⟨v9, u', hv, hp9, hb1, hb2, hb3⟩, hz, hk⟩, stp⟩ := hrun T hT X
  cases hv
  rw [h0] at hz hk
  have hS1 : va_S A s.heap T'.heap (locs ++ L9) := ⟨Nat.le_trans hS.1 (by rw [e1]; exact hz), fun q h1 h2 => by
      rw [e1, hk q (Nat.lt_of_lt_of_le h1 hS.1) (fun z => h2 (hF q z))]
      exact hS.2.1 q h1 h2, fun q hq => by
      rcases List.mem_append.mp hq with h | h
      · exact hS.2.2 q h
      · exact hF _ (hL q h)⟩
  obtain ⟨hj1, hj2⟩ := w_join hP hD hk hF hb1 hb3
  rw [← e1] at hj1
  obtain ⟨t2, a1, b1⟩ := k v u' hp9 ls hl T'.heap (locs ++ L9) hj1 hj2 hS1 T' rfl X'
  exact ⟨t2, stp t2 a1, b1⟩
theorem w_fS2 (h : Cx Wd l D κ ε own cc mL ret R post Γ) {S : Type} {Wx : S → va_W × Nat × Nat} {y : MethodName} {cy : ByteArray} {mLy : Nat} {rety : Option FieldType} {fr lo mc ms index : Nat} {ps : Option Value → S → Prop} {u : S} {x1 x2 : Value} (hc : Ct Wx l D κ ε y cy mLy rety fr lo mc ms u [x1, x2] ps) {wr : va_W} (hp : ws.Perm (wr ++ (Wx u).1)) (hG : GoodIn Wall (va_wsS own index y (Cond.code y cy mLy rety :: Wall))) (hd : y.cls ≠ "java/lang/invoke/MethodHandle" ∧ y.cls ≠ "java/lang/invoke/VarHandle" ∧ (parseMethodDescriptor y.desc).map (fun d => d.parameters.length) = some 2) (hR : fr + 1 ≤ R.frames ∧ 8 + (mLy + 11) + lo ≤ R.locals) (hf : c9 + mc ≤ R.cells ∧ s9 + ms ≤ R.slots) (hW8 : (st.map fun v => v.category).sum ≤ 8) (d : decode cc pc = .ok (.invokestatic index, 3)) (k : ∀ v u', ps v u' → WW Γ mL (wr ++ (Wx u').1, c9 + mc, s9 + ms) (pc + 3) L (v.toList ++ st)) : WW Γ mL (ws, c9, s9) pc L (x2 :: x1 :: st) := by
  obtain ⟨p, e, s, m, args, below, meth, c, A, Q, rfl, hx, hb, hml, hown, hts, hK, hE, hA, hfin⟩ := h
  intro ls hl H locs hP0 hD0 hS
  have hp' : ws.Perm ((wr ++ (Wx u).1) ++ []) := by rw [List.append_nil]; exact hp
  have hP := P_perm hp' hP0
  have hD := D_perm hp' hD0
  have hPc : va_P D vwCl (Wx u).1 H := P_perm List.perm_append_comm hP
  have hDc : va_D A (Wx u).1 := D_perm List.perm_append_comm hD
  have hF : ∀ q, va_A (Wx u).1 H.size q → A q := fun q hq => by
    rcases hq with ⟨i, e9, hi⟩ | hq
    · exact hDc.2 i (q, e9) hi
    · exact hA q (Nat.le_trans hS.1 hq)
  have hpre : ∀ U : State, U.heap = H → s.WarmedH U.vm → va_Pc ([x1, x2]) (PreW D κ ε (Wx u).1 H.size) ([x1, x2]).toArray U := fun U hU hW => ⟨rfl, by rw [hU], by rw [hU]; exact hPc, va_K.moved hW.alike hK, hDc.weaken (fun _ _ _ _ => trivial), by rw [hU]; exact (((hE.kept hS.2.1).narrow hF).warm hW)⟩
  have hrun : va_Run p l e R s m args below meth c H locs c9 s9 mc ms (F0 m pc ls (x2 :: x1 :: st)) st (QW Wx D κ (va_A (Wx u).1 H.size) ps ([x1, x2]).toArray) (va_A (Wx u).1 H.size) := va_runS (As := [x1, x2]) ⟨hx, hb, hml, hown, hts⟩ (hc H.size) (va_cwS 2 hts hG rfl rfl rfl hd hR) ⟨preW_blind, hpre⟩ rfl rfl hl.1 rfl (lv_room hW8) d hf
  intro T hT X
  obtain ⟨v, st₀, t, T', L9, h0, X', hL, e1, e2, ⟨⟨v9, u', hv, hp9, hb1, hb2, hb3⟩, hz, hk⟩, stp⟩ := hrun T hT X
  cases hv
  rw [h0] at hz hk
  have hS1 : va_S A s.heap T'.heap (locs ++ L9) := ⟨Nat.le_trans hS.1 (by rw [e1]; exact hz), fun q h1 h2 => by
      rw [e1, hk q (Nat.lt_of_lt_of_le h1 hS.1) (fun z => h2 (hF q z))]
      exact hS.2.1 q h1 h2, fun q hq => by
      rcases List.mem_append.mp hq with h | h
      · exact hS.2.2 q h
      · exact hF _ (hL q h)⟩
  obtain ⟨hj1, hj2⟩ := w_join hP hD hk hF hb1 hb3
  rw [← e1] at hj1
  obtain ⟨t2, a1, b1⟩ := k v u' hp9 ls hl T'.heap (locs ++ L9) hj1 hj2 hS1 T' rfl X'
  exact ⟨t2, stp t2 a1, b1⟩
theorem w_fS3 (h : Cx Wd l D κ ε own cc mL ret R post Γ) {S : Type} {Wx : S → va_W × Nat × Nat} {y : MethodName} {cy : ByteArray} {mLy : Nat} {rety : Option FieldType} {fr lo mc ms index : Nat} {ps : Option Value → S → Prop} {u : S} {x1 x2 x3 : Value} (hc : Ct Wx l D κ ε y cy mLy rety fr lo mc ms u [x1, x2, x3] ps) {wr : va_W} (hp : ws.Perm (wr ++ (Wx u).1)) (hG : GoodIn Wall (va_wsS own index y (Cond.code y cy mLy rety :: Wall))) (hd : y.cls ≠ "java/lang/invoke/MethodHandle" ∧ y.cls ≠ "java/lang/invoke/VarHandle" ∧ (parseMethodDescriptor y.desc).map (fun d => d.parameters.length) = some 3) (hR : fr + 1 ≤ R.frames ∧ 8 + (mLy + 11) + lo ≤ R.locals) (hf : c9 + mc ≤ R.cells ∧ s9 + ms ≤ R.slots) (hW8 : (st.map fun v => v.category).sum ≤ 8) (d : decode cc pc = .ok (.invokestatic index, 3)) (k : ∀ v u', ps v u' → WW Γ mL (wr ++ (Wx u').1, c9 + mc, s9 + ms) (pc + 3) L (v.toList ++ st)) : WW Γ mL (ws, c9, s9) pc L (x3 :: x2 :: x1 :: st) := by
  obtain ⟨p, e, s, m, args, below, meth, c, A, Q, rfl, hx, hb, hml, hown, hts, hK, hE, hA, hfin⟩ := h
  intro ls hl H locs hP0 hD0 hS
  have hp' : ws.Perm ((wr ++ (Wx u).1) ++ []) := by rw [List.append_nil]; exact hp
  have hP := P_perm hp' hP0
  have hD := D_perm hp' hD0
  have hPc : va_P D vwCl (Wx u).1 H := P_perm List.perm_append_comm hP
  have hDc : va_D A (Wx u).1 := D_perm List.perm_append_comm hD
  have hF : ∀ q, va_A (Wx u).1 H.size q → A q := fun q hq => by
    rcases hq with ⟨i, e9, hi⟩ | hq
    · exact hDc.2 i (q, e9) hi
    · exact hA q (Nat.le_trans hS.1 hq)
  have hpre : ∀ U : State, U.heap = H → s.WarmedH U.vm → va_Pc ([x1, x2, x3]) (PreW D κ ε (Wx u).1 H.size) ([x1, x2, x3]).toArray U := fun U hU hW => ⟨rfl, by rw [hU], by rw [hU]; exact hPc, va_K.moved hW.alike hK, hDc.weaken (fun _ _ _ _ => trivial), by rw [hU]; exact (((hE.kept hS.2.1).narrow hF).warm hW)⟩
  have hrun : va_Run p l e R s m args below meth c H locs c9 s9 mc ms (F0 m pc ls (x3 :: x2 :: x1 :: st)) st (QW Wx D κ (va_A (Wx u).1 H.size) ps ([x1, x2, x3]).toArray) (va_A (Wx u).1 H.size) := va_runS (As := [x1, x2, x3]) ⟨hx, hb, hml, hown, hts⟩ (hc H.size) (va_cwS 3 hts hG rfl rfl rfl hd hR) ⟨preW_blind, hpre⟩ rfl rfl hl.1 rfl (lv_room hW8) d hf
  intro T hT X
  obtain ⟨v, st₀, t, T', L9, h0, X', hL, e1, e2, ⟨⟨v9, u', hv, hp9, hb1, hb2, hb3⟩, hz, hk⟩, stp⟩ := hrun T hT X
  cases hv
  rw [h0] at hz hk
  have hS1 : va_S A s.heap T'.heap (locs ++ L9) := ⟨Nat.le_trans hS.1 (by rw [e1]; exact hz), fun q h1 h2 => by
      rw [e1, hk q (Nat.lt_of_lt_of_le h1 hS.1) (fun z => h2 (hF q z))]
      exact hS.2.1 q h1 h2, fun q hq => by
      rcases List.mem_append.mp hq with h | h
      · exact hS.2.2 q h
      · exact hF _ (hL q h)⟩
  obtain ⟨hj1, hj2⟩ := w_join hP hD hk hF hb1 hb3
  rw [← e1] at hj1
  obtain ⟨t2, a1, b1⟩ := k v u' hp9 ls hl T'.heap (locs ++ L9) hj1 hj2 hS1 T' rfl X'
  exact ⟨t2, stp t2 a1, b1⟩
theorem w_fS4 (h : Cx Wd l D κ ε own cc mL ret R post Γ) {S : Type} {Wx : S → va_W × Nat × Nat} {y : MethodName} {cy : ByteArray} {mLy : Nat} {rety : Option FieldType} {fr lo mc ms index : Nat} {ps : Option Value → S → Prop} {u : S} {x1 x2 x3 x4 : Value} (hc : Ct Wx l D κ ε y cy mLy rety fr lo mc ms u [x1, x2, x3, x4] ps) {wr : va_W} (hp : ws.Perm (wr ++ (Wx u).1)) (hG : GoodIn Wall (va_wsS own index y (Cond.code y cy mLy rety :: Wall))) (hd : y.cls ≠ "java/lang/invoke/MethodHandle" ∧ y.cls ≠ "java/lang/invoke/VarHandle" ∧ (parseMethodDescriptor y.desc).map (fun d => d.parameters.length) = some 4) (hR : fr + 1 ≤ R.frames ∧ 8 + (mLy + 11) + lo ≤ R.locals) (hf : c9 + mc ≤ R.cells ∧ s9 + ms ≤ R.slots) (hW8 : (st.map fun v => v.category).sum ≤ 8) (d : decode cc pc = .ok (.invokestatic index, 3)) (k : ∀ v u', ps v u' → WW Γ mL (wr ++ (Wx u').1, c9 + mc, s9 + ms) (pc + 3) L (v.toList ++ st)) : WW Γ mL (ws, c9, s9) pc L (x4 :: x3 :: x2 :: x1 :: st) := by
  obtain ⟨p, e, s, m, args, below, meth, c, A, Q, rfl, hx, hb, hml, hown, hts, hK, hE, hA, hfin⟩ := h
  intro ls hl H locs hP0 hD0 hS
  have hp' : ws.Perm ((wr ++ (Wx u).1) ++ []) := by rw [List.append_nil]; exact hp
  have hP := P_perm hp' hP0
  have hD := D_perm hp' hD0
  have hPc : va_P D vwCl (Wx u).1 H := P_perm List.perm_append_comm hP
  have hDc : va_D A (Wx u).1 := D_perm List.perm_append_comm hD
  have hF : ∀ q, va_A (Wx u).1 H.size q → A q := fun q hq => by
    rcases hq with ⟨i, e9, hi⟩ | hq
    · exact hDc.2 i (q, e9) hi
    · exact hA q (Nat.le_trans hS.1 hq)
  have hpre : ∀ U : State, U.heap = H → s.WarmedH U.vm → va_Pc ([x1, x2, x3, x4]) (PreW D κ ε (Wx u).1 H.size) ([x1, x2, x3, x4]).toArray U := fun U hU hW => ⟨rfl, by rw [hU], by rw [hU]; exact hPc, va_K.moved hW.alike hK, hDc.weaken (fun _ _ _ _ => trivial), by rw [hU]; exact (((hE.kept hS.2.1).narrow hF).warm hW)⟩
  have hrun : va_Run p l e R s m args below meth c H locs c9 s9 mc ms (F0 m pc ls (x4 :: x3 :: x2 :: x1 :: st)) st (QW Wx D κ (va_A (Wx u).1 H.size) ps ([x1, x2, x3, x4]).toArray) (va_A (Wx u).1 H.size) := va_runS (As := [x1, x2, x3, x4]) ⟨hx, hb, hml, hown, hts⟩ (hc H.size) (va_cwS 4 hts hG rfl rfl rfl hd hR) ⟨preW_blind, hpre⟩ rfl rfl hl.1 rfl (lv_room hW8) d hf
  intro T hT X
  obtain ⟨v, st₀, t, T', L9, h0, X', hL, e1, e2, ⟨⟨v9, u', hv, hp9, hb1, hb2, hb3⟩, hz, hk⟩, stp⟩ := hrun T hT X
  cases hv
  rw [h0] at hz hk
  have hS1 : va_S A s.heap T'.heap (locs ++ L9) := ⟨Nat.le_trans hS.1 (by rw [e1]; exact hz), fun q h1 h2 => by
      rw [e1, hk q (Nat.lt_of_lt_of_le h1 hS.1) (fun z => h2 (hF q z))]
      exact hS.2.1 q h1 h2, fun q hq => by
      rcases List.mem_append.mp hq with h | h
      · exact hS.2.2 q h
      · exact hF _ (hL q h)⟩
  obtain ⟨hj1, hj2⟩ := w_join hP hD hk hF hb1 hb3
  rw [← e1] at hj1
  obtain ⟨t2, a1, b1⟩ := k v u' hp9 ls hl T'.heap (locs ++ L9) hj1 hj2 hS1 T' rfl X'
  exact ⟨t2, stp t2 a1, b1⟩
theorem w_fI0 (h : Cx Wd l D κ ε own cc mL ret R post Γ) {S : Type} {Wx : S → va_W × Nat × Nat} {y : MethodName} {cy : ByteArray} {mLy : Nat} {fr lo mc ms index : Nat} {ps : Option Value → S → Prop} {u : S} {b : Nat} (hc : Ct Wx l D κ ε y cy mLy none fr lo mc ms u [.ref b] ps) {wr : va_W} (hp : ws.Perm (wr ++ (Wx u).1)) (hG : GoodIn Wall (Cond.code y cy mLy none :: Wall)) (hini : Cond.initialized y.cls ∈ Wall) (hlk : Cond.methodLink own index y ∈ Wall) (him : Cond.instanceMethod y ∈ Wall) (hy1 : y.name = "<init>") (hd : y.cls ≠ "java/lang/invoke/MethodHandle" ∧ y.cls ≠ "java/lang/invoke/VarHandle" ∧ (parseMethodDescriptor y.desc).map (fun d => d.parameters.length) = some 0) (hR : fr + 1 ≤ R.frames ∧ 8 + (mLy + 11) + lo ≤ R.locals) (hf : c9 + mc ≤ R.cells ∧ s9 + ms ≤ R.slots) (hW8 : (st.map fun v => v.category).sum ≤ 8) (d : decode cc pc = .ok (.invokespecial index, 3)) (k : ∀ v u', ps v u' → WW Γ mL (wr ++ (Wx u').1, c9 + mc, s9 + ms) (pc + 3) L (v.toList ++ st)) : WW Γ mL (ws, c9, s9) pc L (.ref b :: st) := by
  obtain ⟨p, e, s, m, args, below, meth, c, A, Q, rfl, hx, hb, hml, hown, hts, hK, hE, hA, hfin⟩ := h
  intro ls hl H locs hP0 hD0 hS
  have hp' : ws.Perm ((wr ++ (Wx u).1) ++ []) := by rw [List.append_nil]; exact hp
  have hP := P_perm hp' hP0
  have hD := D_perm hp' hD0
  have hPc : va_P D vwCl (Wx u).1 H := P_perm List.perm_append_comm hP
  have hDc : va_D A (Wx u).1 := D_perm List.perm_append_comm hD
  have hF : ∀ q, va_A (Wx u).1 H.size q → A q := fun q hq => by
    rcases hq with ⟨i, e9, hi⟩ | hq
    · exact hDc.2 i (q, e9) hi
    · exact hA q (Nat.le_trans hS.1 hq)
  have hpre : ∀ U : State, U.heap = H → s.WarmedH U.vm → va_Pc ([.ref b]) (PreW D κ ε (Wx u).1 H.size) ([.ref b]).toArray U := fun U hU hW => ⟨rfl, by rw [hU], by rw [hU]; exact hPc, va_K.moved hW.alike hK, hDc.weaken (fun _ _ _ _ => trivial), by rw [hU]; exact (((hE.kept hS.2.1).narrow hF).warm hW)⟩
  have hrun : va_Run p l e R s m args below meth c H locs c9 s9 mc ms (F0 m pc ls (.ref b :: st)) st (QW Wx D κ (va_A (Wx u).1 H.size) ps ([.ref b]).toArray) (va_A (Wx u).1 H.size) := va_runI (As := []) ⟨hx, hb, hml, hown, hts⟩ (hc H.size) (cwI 0 hts hG rfl rfl rfl (hts _ hini) (hts _ hlk) (hts _ him) hy1 hd hR) ⟨preW_blind, hpre⟩ rfl rfl hl.1 rfl (lv_room hW8) d hf
  intro T hT X
  obtain ⟨v, st₀, t, T', L9, h0, X', hL, e1, e2, ⟨⟨v9, u', hv, hp9, hb1, hb2, hb3⟩, hz, hk⟩, stp⟩ := hrun T hT X
  cases hv
  rw [h0] at hz hk
  have hS1 : va_S A s.heap T'.heap (locs ++ L9) := ⟨Nat.le_trans hS.1 (by rw [e1]; exact hz), fun q h1 h2 => by
      rw [e1, hk q (Nat.lt_of_lt_of_le h1 hS.1) (fun z => h2 (hF q z))]
      exact hS.2.1 q h1 h2, fun q hq => by
      rcases List.mem_append.mp hq with h | h
      · exact hS.2.2 q h
      · exact hF _ (hL q h)⟩
  obtain ⟨hj1, hj2⟩ := w_join hP hD hk hF hb1 hb3
  rw [← e1] at hj1
  obtain ⟨t2, a1, b1⟩ := k v u' hp9 ls hl T'.heap (locs ++ L9) hj1 hj2 hS1 T' rfl X'
  exact ⟨t2, stp t2 a1, b1⟩
theorem w_fI1 (h : Cx Wd l D κ ε own cc mL ret R post Γ) {S : Type} {Wx : S → va_W × Nat × Nat} {y : MethodName} {cy : ByteArray} {mLy : Nat} {fr lo mc ms index : Nat} {ps : Option Value → S → Prop} {u : S} {b : Nat} {x1 : Value} (hc : Ct Wx l D κ ε y cy mLy none fr lo mc ms u [.ref b, x1] ps) {wr : va_W} (hp : ws.Perm (wr ++ (Wx u).1)) (hG : GoodIn Wall (Cond.code y cy mLy none :: Wall)) (hini : Cond.initialized y.cls ∈ Wall) (hlk : Cond.methodLink own index y ∈ Wall) (him : Cond.instanceMethod y ∈ Wall) (hy1 : y.name = "<init>") (hd : y.cls ≠ "java/lang/invoke/MethodHandle" ∧ y.cls ≠ "java/lang/invoke/VarHandle" ∧ (parseMethodDescriptor y.desc).map (fun d => d.parameters.length) = some 1) (hR : fr + 1 ≤ R.frames ∧ 8 + (mLy + 11) + lo ≤ R.locals) (hf : c9 + mc ≤ R.cells ∧ s9 + ms ≤ R.slots) (hW8 : (st.map fun v => v.category).sum ≤ 8) (d : decode cc pc = .ok (.invokespecial index, 3)) (k : ∀ v u', ps v u' → WW Γ mL (wr ++ (Wx u').1, c9 + mc, s9 + ms) (pc + 3) L (v.toList ++ st)) : WW Γ mL (ws, c9, s9) pc L (x1 :: .ref b :: st) := by
  obtain ⟨p, e, s, m, args, below, meth, c, A, Q, rfl, hx, hb, hml, hown, hts, hK, hE, hA, hfin⟩ := h
  intro ls hl H locs hP0 hD0 hS
  have hp' : ws.Perm ((wr ++ (Wx u).1) ++ []) := by rw [List.append_nil]; exact hp
  have hP := P_perm hp' hP0
  have hD := D_perm hp' hD0
  have hPc : va_P D vwCl (Wx u).1 H := P_perm List.perm_append_comm hP
  have hDc : va_D A (Wx u).1 := D_perm List.perm_append_comm hD
  have hF : ∀ q, va_A (Wx u).1 H.size q → A q := fun q hq => by
    rcases hq with ⟨i, e9, hi⟩ | hq
    · exact hDc.2 i (q, e9) hi
    · exact hA q (Nat.le_trans hS.1 hq)
  have hpre : ∀ U : State, U.heap = H → s.WarmedH U.vm → va_Pc ([.ref b, x1]) (PreW D κ ε (Wx u).1 H.size) ([.ref b, x1]).toArray U := fun U hU hW => ⟨rfl, by rw [hU], by rw [hU]; exact hPc, va_K.moved hW.alike hK, hDc.weaken (fun _ _ _ _ => trivial), by rw [hU]; exact (((hE.kept hS.2.1).narrow hF).warm hW)⟩
  have hrun : va_Run p l e R s m args below meth c H locs c9 s9 mc ms (F0 m pc ls (x1 :: .ref b :: st)) st (QW Wx D κ (va_A (Wx u).1 H.size) ps ([.ref b, x1]).toArray) (va_A (Wx u).1 H.size) := va_runI (As := [x1]) ⟨hx, hb, hml, hown, hts⟩ (hc H.size) (cwI 1 hts hG rfl rfl rfl (hts _ hini) (hts _ hlk) (hts _ him) hy1 hd hR) ⟨preW_blind, hpre⟩ rfl rfl hl.1 rfl (lv_room hW8) d hf
  intro T hT X
  obtain ⟨v, st₀, t, T', L9, h0, X', hL, e1, e2, ⟨⟨v9, u', hv, hp9, hb1, hb2, hb3⟩, hz, hk⟩, stp⟩ := hrun T hT X
  cases hv
  rw [h0] at hz hk
  have hS1 : va_S A s.heap T'.heap (locs ++ L9) := ⟨Nat.le_trans hS.1 (by rw [e1]; exact hz), fun q h1 h2 => by
      rw [e1, hk q (Nat.lt_of_lt_of_le h1 hS.1) (fun z => h2 (hF q z))]
      exact hS.2.1 q h1 h2, fun q hq => by
      rcases List.mem_append.mp hq with h | h
      · exact hS.2.2 q h
      · exact hF _ (hL q h)⟩
  obtain ⟨hj1, hj2⟩ := w_join hP hD hk hF hb1 hb3
  rw [← e1] at hj1
  obtain ⟨t2, a1, b1⟩ := k v u' hp9 ls hl T'.heap (locs ++ L9) hj1 hj2 hS1 T' rfl X'
  exact ⟨t2, stp t2 a1, b1⟩
theorem w_fI2 (h : Cx Wd l D κ ε own cc mL ret R post Γ) {S : Type} {Wx : S → va_W × Nat × Nat} {y : MethodName} {cy : ByteArray} {mLy : Nat} {fr lo mc ms index : Nat} {ps : Option Value → S → Prop} {u : S} {b : Nat} {x1 x2 : Value} (hc : Ct Wx l D κ ε y cy mLy none fr lo mc ms u [.ref b, x1, x2] ps) {wr : va_W} (hp : ws.Perm (wr ++ (Wx u).1)) (hG : GoodIn Wall (Cond.code y cy mLy none :: Wall)) (hini : Cond.initialized y.cls ∈ Wall) (hlk : Cond.methodLink own index y ∈ Wall) (him : Cond.instanceMethod y ∈ Wall) (hy1 : y.name = "<init>") (hd : y.cls ≠ "java/lang/invoke/MethodHandle" ∧ y.cls ≠ "java/lang/invoke/VarHandle" ∧ (parseMethodDescriptor y.desc).map (fun d => d.parameters.length) = some 2) (hR : fr + 1 ≤ R.frames ∧ 8 + (mLy + 11) + lo ≤ R.locals) (hf : c9 + mc ≤ R.cells ∧ s9 + ms ≤ R.slots) (hW8 : (st.map fun v => v.category).sum ≤ 8) (d : decode cc pc = .ok (.invokespecial index, 3)) (k : ∀ v u', ps v u' → WW Γ mL (wr ++ (Wx u').1, c9 + mc, s9 + ms) (pc + 3) L (v.toList ++ st)) : WW Γ mL (ws, c9, s9) pc L (x2 :: x1 :: .ref b :: st) := by
  obtain ⟨p, e, s, m, args, below, meth, c, A, Q, rfl, hx, hb, hml, hown, hts, hK, hE, hA, hfin⟩ := h
  intro ls hl H locs hP0 hD0 hS
  have hp' : ws.Perm ((wr ++ (Wx u).1) ++ []) := by rw [List.append_nil]; exact hp
  have hP := P_perm hp' hP0
  have hD := D_perm hp' hD0
  have hPc : va_P D vwCl (Wx u).1 H := P_perm List.perm_append_comm hP
  have hDc : va_D A (Wx u).1 := D_perm List.perm_append_comm hD
  have hF : ∀ q, va_A (Wx u).1 H.size q → A q := fun q hq => by
    rcases hq with ⟨i, e9, hi⟩ | hq
    · exact hDc.2 i (q, e9) hi
    · exact hA q (Nat.le_trans hS.1 hq)
  have hpre : ∀ U : State, U.heap = H → s.WarmedH U.vm → va_Pc ([.ref b, x1, x2]) (PreW D κ ε (Wx u).1 H.size) ([.ref b, x1, x2]).toArray U := fun U hU hW => ⟨rfl, by rw [hU], by rw [hU]; exact hPc, va_K.moved hW.alike hK, hDc.weaken (fun _ _ _ _ => trivial), by rw [hU]; exact (((hE.kept hS.2.1).narrow hF).warm hW)⟩
  have hrun : va_Run p l e R s m args below meth c H locs c9 s9 mc ms (F0 m pc ls (x2 :: x1 :: .ref b :: st)) st (QW Wx D κ (va_A (Wx u).1 H.size) ps ([.ref b, x1, x2]).toArray) (va_A (Wx u).1 H.size) := va_runI (As := [x1, x2]) ⟨hx, hb, hml, hown, hts⟩ (hc H.size) (cwI 2 hts hG rfl rfl rfl (hts _ hini) (hts _ hlk) (hts _ him) hy1 hd hR) ⟨preW_blind, hpre⟩ rfl rfl hl.1 rfl (lv_room hW8) d hf
  intro T hT X
  obtain ⟨v, st₀, t, T', L9, h0, X', hL, e1, e2, ⟨⟨v9, u', hv, hp9, hb1, hb2, hb3⟩, hz, hk⟩, stp⟩ := hrun T hT X
  cases hv
  rw [h0] at hz hk
  have hS1 : va_S A s.heap T'.heap (locs ++ L9) := ⟨Nat.le_trans hS.1 (by rw [e1]; exact hz), fun q h1 h2 => by
      rw [e1, hk q (Nat.lt_of_lt_of_le h1 hS.1) (fun z => h2 (hF q z))]
      exact hS.2.1 q h1 h2, fun q hq => by
      rcases List.mem_append.mp hq with h | h
      · exact hS.2.2 q h
      · exact hF _ (hL q h)⟩
  obtain ⟨hj1, hj2⟩ := w_join hP hD hk hF hb1 hb3
  rw [← e1] at hj1
  obtain ⟨t2, a1, b1⟩ := k v u' hp9 ls hl T'.heap (locs ++ L9) hj1 hj2 hS1 T' rfl X'
  exact ⟨t2, stp t2 a1, b1⟩
theorem w_fIN0 (h : Cx Wd l D κ ε own cc mL ret R post Γ) {S : Type} {Wx : S → va_W × Nat × Nat} {y : MethodName} {cy : ByteArray} {mLy : Nat} {fr lo mc ms index : Nat} {ps : Option Value → S → Prop} {u : S} {b : Nat} (hc : Ct Wx l D κ ε y cy mLy none fr lo mc ms u [.ref b] ps) {wr : va_W} (hp : ws.Perm (wr ++ (Wx u).1)) {host : String} (hG : GoodIn Wall (Cond.code y cy mLy none :: Wall)) (hN : ∀ U : State, Wn U → va_Nw (.methodLinkNest own index y host) U) (hini : Cond.initialized y.cls ∈ Wall) (him : Cond.instanceMethod y ∈ Wall) (hy1 : y.name = "<init>") (hd : y.cls ≠ "java/lang/invoke/MethodHandle" ∧ y.cls ≠ "java/lang/invoke/VarHandle" ∧ (parseMethodDescriptor y.desc).map (fun d => d.parameters.length) = some 0) (hR : fr + 1 ≤ R.frames ∧ 8 + (mLy + 11) + lo ≤ R.locals) (hf : c9 + mc ≤ R.cells ∧ s9 + ms ≤ R.slots) (hW8 : (st.map fun v => v.category).sum ≤ 8) (d : decode cc pc = .ok (.invokespecial index, 3)) (k : ∀ v u', ps v u' → WW Γ mL (wr ++ (Wx u').1, c9 + mc, s9 + ms) (pc + 3) L (v.toList ++ st)) : WW Γ mL (ws, c9, s9) pc L (.ref b :: st) := by
  obtain ⟨p, e, s, m, args, below, meth, c, A, Q, rfl, hx, hb, hml, hown, hts, hK, hE, hA, hfin⟩ := h
  intro ls hl H locs hP0 hD0 hS
  have hp' : ws.Perm ((wr ++ (Wx u).1) ++ []) := by rw [List.append_nil]; exact hp
  have hP := P_perm hp' hP0
  have hD := D_perm hp' hD0
  have hPc : va_P D vwCl (Wx u).1 H := P_perm List.perm_append_comm hP
  have hDc : va_D A (Wx u).1 := D_perm List.perm_append_comm hD
  have hF : ∀ q, va_A (Wx u).1 H.size q → A q := fun q hq => by
    rcases hq with ⟨i, e9, hi⟩ | hq
    · exact hDc.2 i (q, e9) hi
    · exact hA q (Nat.le_trans hS.1 hq)
  have hpre : ∀ U : State, U.heap = H → s.WarmedH U.vm → va_Pc ([.ref b]) (PreW D κ ε (Wx u).1 H.size) ([.ref b]).toArray U := fun U hU hW => ⟨rfl, by rw [hU], by rw [hU]; exact hPc, va_K.moved hW.alike hK, hDc.weaken (fun _ _ _ _ => trivial), by rw [hU]; exact (((hE.kept hS.2.1).narrow hF).warm hW)⟩
  have hrun : va_Run p l e R s m args below meth c H locs c9 s9 mc ms (F0 m pc ls (.ref b :: st)) st (QW Wx D κ (va_A (Wx u).1 H.size) ps ([.ref b]).toArray) (va_A (Wx u).1 H.size) := va_runIN (As := []) ⟨hx, hb, hml, hown, hts⟩ (hc H.size) ⟨va_cnB 0 hts hG rfl rfl rfl (hN s hE.2.2) (hts _ hini) hd hR, hy1, hts _ him⟩ ⟨preW_blind, hpre⟩ rfl rfl hl.1 rfl (lv_room hW8) d hf
  intro T hT X
  obtain ⟨v, st₀, t, T', L9, h0, X', hL, e1, e2, ⟨⟨v9, u', hv, hp9, hb1, hb2, hb3⟩, hz, hk⟩, stp⟩ := hrun T hT X
  cases hv
  rw [h0] at hz hk
  have hS1 : va_S A s.heap T'.heap (locs ++ L9) := ⟨Nat.le_trans hS.1 (by rw [e1]; exact hz), fun q h1 h2 => by
      rw [e1, hk q (Nat.lt_of_lt_of_le h1 hS.1) (fun z => h2 (hF q z))]
      exact hS.2.1 q h1 h2, fun q hq => by
      rcases List.mem_append.mp hq with h | h
      · exact hS.2.2 q h
      · exact hF _ (hL q h)⟩
  obtain ⟨hj1, hj2⟩ := w_join hP hD hk hF hb1 hb3
  rw [← e1] at hj1
  obtain ⟨t2, a1, b1⟩ := k v u' hp9 ls hl T'.heap (locs ++ L9) hj1 hj2 hS1 T' rfl X'
  exact ⟨t2, stp t2 a1, b1⟩
end ROWS2
