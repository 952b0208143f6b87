/-- what a throw asks beside: the constructors that are passed on to -/
def Dc (U : State) : Prop := va_Nw (.declares (Bundle.initS "java/lang/RuntimeException")) U ∧ va_Nw (.declares (Bundle.initS "java/lang/Exception")) U ∧ va_Nw (.declares (Bundle.initS "java/lang/Throwable")) U
theorem Dc.warm {s U : State} (hW : s.WarmedH U.vm) (h : Dc s) : Dc U := ⟨h.1.warmD hW, h.2.1.warmD hW, h.2.2.warmD hW⟩
/-- a method's start: its cells, apart, and what lies beside them -/
def En2 (ε : Nat → Nat) (A : Nat → Prop) (U : State) (H : Heap) : Prop := En ε A U H ∧ Dc U
def Pre2 (D : va_G) (κ ε : Nat → Nat) (ws : va_W) (sz : Nat) (U : State) : Prop :=
  U.heap.size = sz ∧ va_P D vwCl ws U.heap ∧ va_K D vwCl (tys κ) U ∧ va_D (fun _ => True) ws ∧ En2 ε (va_A ws sz) U U.heap
theorem pre2_blind {D : va_G} {κ ε : Nat → Nat} {ws : va_W} {sz : Nat} {av : List Value} : FrameBlind (va_Pc av (Pre2 D κ ε ws sz)) := fun a U g mk q => by
  obtain ⟨q0, q1, qP, qK, qD, qE⟩ := q
  exact ⟨q0, q1, qP, va_K.moved (u := U) (U := U.calling g mk a) (Vm.Alike.refl U.vm) qK, qD, En.warm (s := U) (U := U.calling g mk a) (State.WarmedH.refl U) qE.1, Dc.warm (s := U) (U := U.calling g mk a) (State.WarmedH.refl U) qE.2⟩
section
variable {s : State} {H : Heap} {locs : List Loc} {D : va_G} {κ ε : Nat → Nat} {A : Nat → Prop} {ws wc : va_W}
theorem pre2_at {av : List Value} (hP : va_P D vwCl ws H) (hD : va_D A ws) (hK : va_K D vwCl (tys κ) s) (hE : En2 ε A s s.heap) (hS : va_S A s.heap H locs) (hA : ∀ q, s.heap.size ≤ q → A q) (is : List Nat) (hn : va_nd is = true) (hC : is.map (fun i => ws[i]?) = wc.map some) : ∀ U : State, U.heap = H → s.WarmedH U.vm → va_Pc av (Pre2 D κ ε wc H.size) av.toArray U := by
  intro U hU hW
  obtain ⟨q0, q1, qP, qK, qD, qE⟩ := pre_at (av := av) hP hD hK hE.1 hS hA is hn hC U hU hW
  exact ⟨q0, q1, qP, qK, qD, qE, hE.2.warm hW⟩
theorem pre2_S {av : List Value} (hP : va_P D vwCl ws H) (hD : va_D A ws) (hK : va_K D vwCl (tys κ) s) (hE : En2 ε A s s.heap) (hS : va_S A s.heap H locs) (hA : ∀ q, s.heap.size ≤ q → A q) (is : List Nat) (hn : va_nd is = true) (hC : is.map (fun i => ws[i]?) = wc.map some) : PreS s H (va_Pc av (Pre2 D κ ε wc H.size)) av := ⟨pre2_blind, pre2_at hP hD hK hE hS hA is hn hC⟩
theorem pre2_V {av : List Value} {b q0 ci : Nat} {cq : vw_C} {fs : List Value} (hP : va_P D vwCl ws H) (hD : va_D A ws) (hK : va_K D vwCl (tys κ) s) (hE : En2 ε A s s.heap) (hS : va_S A s.heap H locs) (hA : ∀ q, s.heap.size ≤ q → A q) (is : List Nat) (hn : va_nd is = true) (hC : is.map (fun i => ws[i]?) = wc.map some) (hc : vwCl[ci]? = some cq) (hb : ws[q0]? = some (b, .inr (ci, fs))) : PreV s H cq.1 b (va_Pc (.ref b :: av) (Pre2 D κ ε wc H.size)) av := ⟨pre2_blind, va_recv hK hP hc hb, pre2_at hP hD hK hE hS hA is hn hC⟩
end
