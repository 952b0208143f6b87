set_option maxHeartbeats 8000000 in
set_option maxRecDepth 100000 in
theorem whole_start {p : Program} {e : Env} {s : State} {m : MethodId} {below : List Frame} {meth : Method} {c : Code} (l : Launch) (hflags : l.flags = flags0) {b L : Nat} {xs : Nat → Int32} (hL : L ≤ 260) (C0 : lw_At p s m meth c b L xs) : W p l e room_1 s m #[Value.ref b] below meth c s.heap [] 0 0 (lw_Z below #[Value.ref b] s) (entryFrame m ([Value.ref b] : List Value).toArray 15) := by
  obtain ⟨D, κ, tp, hK, hE⟩ := start_env C0
  obtain ⟨hx, hb, hr, hml, hown, hts0, hX, hbl, hlocks, hgv⟩ := id C0
  have hcx : Cx Wd l D κ (tp, b, L, xs) RL code 15 (some .boolean) room_1 (fun v _ => v = some (.int (iI 1))) (Gm Wd p l e room_1 s m #[Value.ref b] below meth c D (fun q : Nat => s.heap.size ≤ q) (lw_Z below #[Value.ref b] s)) := by
    refine ⟨p, e, s, m, _, below, meth, c, _, _, rfl, hx, hb, hml, hown, fun w hw => hts0 w (Wall_tbl w hw), hK, hE, fun _ h => h, fun u pc ls v H locs hret hp h1 h2 hP hD hS => ?_⟩
    subst hp
    have hdg : decode code pc = .ok (.ireturn, 1) := by
      rcases hret with ⟨h, -, -⟩ | ⟨x, ty, h, -, -, hdg⟩ | ⟨x, h, -, -⟩ | ⟨x, h, -, -⟩ | ⟨x, rt, h, -, -⟩
      · cases h
      · exact hdg
      · cases h
      · cases h
      · cases h
    refine va_forget (fun q hq => hS.2.2 q hq) ?_
    refine W.widen (k := 600130) (n := 7301080) h1 h2 ?_
    refine W.base ?_
    show W p l e room_1 _ m #[Value.ref b] below meth c H [] 600130 7301080 _ (F0 m pc ls [.int (iI 1)])
    rw [show iI 1 = 1 from by decide +kernel]
    exact lw_ret (Drawn.sameBut.refl s.drawn lw_cs) hx hb hr hlocks hdg
  have hw := mL_law (ε := (tp, b, L, xs)) hL hcx
  have hl := lv_entry ([.ref b]) (n := 15) (Nat.le_of_ble_eq_true rfl)
  rw [lg_entry_eq]
  exact hw _ hl s.heap [] (fun k q hq => by simp at hq) ⟨fun i j p q hi => by simp at hi, fun k q hq => by simp at hq⟩ va_S.rf
