/-! pure layer 6: what is gathered behind a context: the first entries alone, one entry more -/
theorem So_take : ∀ {l : List (Nat × Nat)} (n : Nat), So l → So (l.take n)
  | [], n, _ => by rw [List.take_nil]; trivial
  | a :: l, 0, _ => trivial
  | a :: l, n + 1, h => ⟨fun b hb => h.1 b (List.mem_of_mem_take hb), So_take n h.2⟩
theorem gt_take_s : ∀ {l : List (Nat × Nat)} {i : Nat} {b : Nat × Nat}, So l → l[i]? = some b → ∀ k, gt (l.take (i + 1)) k = if b.1 = k then b.2 else gt (l.take i) k
  | [], _, _, _, h, _ => by cases h
  | a :: l, 0, b, _, h, k => by cases h; rfl
  | a :: l, i + 1, b, hs, h, k => by
    have h' : l[i]? = some b := h
    have hb : b ∈ l := List.mem_of_getElem? h'
    have hab := hs.1 b hb
    have ih := gt_take_s hs.2 h' k
    show (if a.1 = k then a.2 else gt (l.take (i + 1)) k) = if b.1 = k then b.2 else if a.1 = k then a.2 else gt (l.take i) k
    rw [ih]
    by_cases e : a.1 = k
    · rw [if_pos e, if_pos e, if_neg (by omega)]
    · rw [if_neg e, if_neg e]
/-- ahead of the place nothing above is counted -/
theorem gt_take_0 {l : List (Nat × Nat)} {i k : Nat} (h : ∀ j (hj : j < l.length), j < i → (l[j]).1 < k) : gt (l.take i) k = 0 := gt_out fun b hb => by
  obtain ⟨j, hj, e⟩ := List.mem_iff_getElem.mp hb
  rw [List.length_take] at hj
  rw [List.getElem_take] at e
  have := h j (by omega) (by omega)
  rw [e] at this
  omega
/-- what lies behind the place isn't counted below it -/
theorem gt_take_all : ∀ {l : List (Nat × Nat)} {i k : Nat}, (∀ j (hj : j < l.length), i ≤ j → k < (l[j]).1) → gt (l.take i) k = gt l k
  | [], i, k, _ => by rw [List.take_nil]
  | a :: l, 0, k, h => by
    show 0 = gt (a :: l) k
    refine (gt_out fun b hb => ?_).symm
    obtain ⟨j, hj, e⟩ := List.mem_iff_getElem.mp hb
    have := h j hj (Nat.zero_le _)
    rw [e] at this
    omega
  | a :: l, i + 1, k, h => by
    show (if a.1 = k then a.2 else gt (l.take i) k) = if a.1 = k then a.2 else gt l k
    rw [gt_take_all fun j hj hi => h (j + 1) (Nat.succ_lt_succ hj) (Nat.succ_le_succ hi)]
theorem sm_upd {f : Nat → Nat} {w v : Nat} (h0 : f w = 0) : ∀ {n : Nat}, w < n → sm (fun j => if j = w then v else f j) n = sm f n + v
  | 0, h => absurd h (Nat.not_lt_zero _)
  | n + 1, h => by
    rw [sm_s, sm_s]
    by_cases e : n = w
    · subst e
      rw [if_pos rfl, h0, sm_cg (g := f) fun i hi => if_neg (by omega)]
      omega
    · rw [if_neg e, sm_upd h0 (by omega)]
      omega
/-- the own counts of the first i entries, behind the keys from F on -/
def ow (l : List (Nat × Nat)) (F i w : Nat) : Nat := gt (l.take i) (F + w + 1)
theorem ow_s {l : List (Nat × Nat)} {F i w : Nat} {b : Nat × Nat} (hs : So l) (hb : l[i]? = some b) (hw : b.1 = F + w + 1) : (∀ j, ow l F (i + 1) j = if j = w then b.2 else ow l F i j) ∧ ow l F i w = 0 := by
  have hi : i < l.length := (List.getElem?_eq_some_iff.mp hb).1
  have he : l[i] = b := (List.getElem?_eq_some_iff.mp hb).2
  refine ⟨fun j => ?_, ?_⟩
  · unfold ow
    rw [gt_take_s hs hb]
    by_cases e : j = w
    · subst e; rw [if_pos hw, if_pos rfl]
    · rw [if_neg (by omega), if_neg e]
  · refine gt_take_0 fun j hj hji => ?_
    have := So_lt hs hji hi
    rw [he] at this
    omega
theorem ow_sum {l : List (Nat × Nat)} {F i w n : Nat} {b : Nat × Nat} (hs : So l) (hp : Po l) (hb : l[i]? = some b) (hw : b.1 = F + w + 1) (hn : w < n) : sm (ow l F (i + 1)) n = sm (ow l F i) n + b.2 ∧ kd (ow l F (i + 1)) n = kd (ow l F i) n + 1 := by
  obtain ⟨h1, h2⟩ := ow_s hs hb hw
  have hpos := hp b (List.mem_of_getElem? hb)
  constructor
  · rw [sm_cg fun j _ => h1 j, sm_upd h2 hn]
  · unfold kd
    rw [← sm_upd (f := fun j => if 0 < ow l F i j then 1 else 0) (w := w) (v := 1) (by rw [h2]; rfl) hn]
    refine sm_cg fun j _ => ?_
    rw [h1 j]
    by_cases e : j = w
    · rw [if_pos e, if_pos e, if_pos hpos]
    · rw [if_neg e, if_neg e]
theorem ow_0 {l : List (Nat × Nat)} {F : Nat} (w : Nat) : ow l F (bw l F) w = 0 := gt_take_0 fun j hj h => by
  have := bw_lt (l := l) hj h
  omega
theorem ow_end {l : List (Nat × Nat)} {F e w : Nat} (hw : w < 13) (h : ∀ j (hj : j < l.length), e ≤ j → F + 14 ≤ (l[j]).1) : ow l F e w = gt l (F + w + 1) := gt_take_all fun j hj hi => by
  have := h j hj hi
  omega
