/-! the seeking of the best words: pure -/
/-- the first of the least of the first n -/
def am (f : Nat → Nat) : Nat → Nat
  | 0 => 0
  | n + 1 => if n = 0 ∨ f n < f (am f n) then n else am f n
theorem am_lt {f : Nat → Nat} : ∀ {n : Nat}, 0 < n → am f n < n
  | 0, h => absurd h (Nat.lt_irrefl 0)
  | n + 1, _ => by
    unfold am
    split
    · omega
    · rename_i q
      have := am_lt (f := f) (n := n) (by omega)
      omega
theorem am_le {f : Nat → Nat} : ∀ {n w : Nat}, w < n → f (am f n) ≤ f w
  | 0, w, h => absurd h (Nat.not_lt_zero w)
  | n + 1, w, h => by
    unfold am
    split
    · rename_i q
      rcases Nat.lt_or_ge w n with z | z
      · rcases q with q | q
        · omega
        · have := am_le (f := f) z
          omega
      · have : w = n := by omega
        subst this; exact Nat.le_refl _
    · rename_i q
      rcases Nat.lt_or_ge w n with z | z
      · exact am_le z
      · have : w = n := by omega
        subst this
        omega
/-- the key that a state stands for: its words, the last ones lowest -/
def kof (V s : Nat) : Nat → Nat
  | 0 => 0
  | n + 1 => kof V s n + (s / V ^ n % V + 1) * p14 n
theorem kof_lt {V s : Nat} (hV : 1 ≤ V ∧ V ≤ 12) : ∀ n : Nat, kof V s n < 14 ^ n
  | 0 => by unfold kof; omega
  | n + 1 => by
    unfold kof
    have h1 := kof_lt (s := s) hV n
    have h2 : s / V ^ n % V < V := Nat.mod_lt _ hV.1
    have h3 : (s / V ^ n % V + 1) * 14 ^ n ≤ 12 * 14 ^ n := Nat.mul_le_mul_right _ (by omega)
    unfold p14
    rw [Nat.pow_succ]
    omega
def kyAt (V N c ch s : Nat) : Nat := c % p14 (N - 1 - ch) * p14 ch + kof V s ch
def stN (V N d : Nat) : Nat := V ^ min d (N - 1)
def nx (V N d s w : Nat) : Nat := (s * V + w) % stN V N (d + 1)
section SEEK
variable (V N : Nat) (Cc : Nat → Nat → Nat → Nat) (more : Nat)
/-- the least cost from a state on, k words before the end -/
def Lr : Nat → Nat → Nat
  | 0, s => Cc (min more (N - 1)) s V
  | k + 1, s => Cc (min (more - k - 1) (N - 1)) s (am (fun w => Cc (min (more - k - 1) (N - 1)) s w + Lr k (nx V N (more - k - 1) s w)) V) + Lr k (nx V N (more - k - 1) s (am (fun w => Cc (min (more - k - 1) (N - 1)) s w + Lr k (nx V N (more - k - 1) s w)) V))
def chD (d s : Nat) : Nat := am (fun w => Cc (min d (N - 1)) s w + Lr V N Cc more (more - d - 1) (nx V N d s w)) V
/-- what the words ws cost from a state on -/
def tc : Nat → Nat → List Nat → Nat
  | d, s, [] => Cc (min d (N - 1)) s V
  | d, s, w :: ws => Cc (min d (N - 1)) s w + tc (d + 1) (nx V N d s w) ws
/-- the words that are chosen -/
def cw : Nat → Nat → Nat → List Nat
  | 0, _, _ => []
  | k + 1, d, s => chD V N Cc more d s :: cw k (d + 1) (nx V N d s (chD V N Cc more d s))
theorem cw_len : ∀ k d s : Nat, (cw V N Cc more k d s).length = k
  | 0, _, _ => rfl
  | k + 1, d, s => by show (_ :: _).length = _; rw [List.length_cons, cw_len k]
theorem cw_lt (hV : 0 < V) : ∀ k d s : Nat, ∀ w ∈ cw V N Cc more k d s, w < V
  | 0, _, _, w, h => absurd h List.not_mem_nil
  | k + 1, d, s, w, h => by
    rcases List.mem_cons.mp h with e | e
    · rw [e]; exact am_lt hV
    · exact cw_lt hV k _ _ w e
theorem Lr_s (k s : Nat) : Lr V N Cc more (k + 1) s = Cc (min (more - k - 1) (N - 1)) s (am (fun w => Cc (min (more - k - 1) (N - 1)) s w + Lr V N Cc more k (nx V N (more - k - 1) s w)) V) + Lr V N Cc more k (nx V N (more - k - 1) s (am (fun w => Cc (min (more - k - 1) (N - 1)) s w + Lr V N Cc more k (nx V N (more - k - 1) s w)) V)) := rfl
theorem Lr_le : ∀ (ws : List Nat) (d s : Nat), d + ws.length = more → (∀ w ∈ ws, w < V) → Lr V N Cc more ws.length s ≤ tc V N Cc d s ws
  | [], d, s, hd, _ => by
    have : d = more := by simpa using hd
    subst this
    exact Nat.le_refl _
  | w :: ws, d, s, hd, hw => by
    rw [List.length_cons] at hd
    show Lr V N Cc more (ws.length + 1) s ≤ Cc (min d (N - 1)) s w + tc V N Cc (d + 1) (nx V N d s w) ws
    have e : more - ws.length - 1 = d := by omega
    have h1 := Lr_le ws (d + 1) (nx V N d s w) (by omega) (fun z hz => hw z (List.mem_cons_of_mem _ hz))
    have h2 := am_le (f := fun w => Cc (min d (N - 1)) s w + Lr V N Cc more ws.length (nx V N d s w)) (hw w List.mem_cons_self)
    rw [Lr_s, e]
    omega
theorem Lr_eq : ∀ (k d s : Nat), d + k = more → Lr V N Cc more k s = tc V N Cc d s (cw V N Cc more k d s)
  | 0, d, s, hd => by
    have : d = more := by omega
    subst this
    rfl
  | k + 1, d, s, hd => by
    show _ = Cc (min d (N - 1)) s (chD V N Cc more d s) + tc V N Cc (d + 1) (nx V N d s (chD V N Cc more d s)) (cw V N Cc more k (d + 1) (nx V N d s (chD V N Cc more d s)))
    rw [← Lr_eq k (d + 1) _ (by omega)]
    rw [Lr_s]
    unfold chD
    rw [show more - k - 1 = d by omega, show more - d - 1 = k by omega]
/-- no words are better than the chosen ones -/
theorem cw_best (ws : List Nat) (h : ws.length = more) (hw : ∀ w ∈ ws, w < V) : tc V N Cc 0 0 (cw V N Cc more more 0 0) ≤ tc V N Cc 0 0 ws := by
  rw [← Lr_eq V N Cc more more 0 0 (by omega)]
  have := Lr_le V N Cc more ws 0 0 (by omega) hw
  rwa [h] at this
end SEEK
theorem dg_pre {V : Nat} {S ws : List Nat} {z : Int} (h : z < (S.length : Int)) : dg V (S ++ ws) z = dg V S z := by
  unfold dg
  split
  · rfl
  · rw [List.getElem?_append_left (by omega)]
def dgn (V : Nat) (o : Option Nat) : Nat := match o with
  | some w => w + 1
  | none => V + 1
theorem dg_nth {V : Nat} {S ws : List Nat} {i : Nat} : dg V (S ++ ws) ((S.length + i : Nat) : Int) = dgn V ws[i]? := by
  unfold dg
  rw [if_neg (by omega), Int.toNat_natCast, List.getElem?_append_right (by omega), show S.length + i - S.length = i by omega]
  generalize ws[i]? = o
  cases o <;> rfl
theorem ky_pre {V : Nat} {S ws : List Nat} : ∀ (n : Nat) {z : Int}, z < (S.length : Int) → ky V (S ++ ws) z n = ky V S z n
  | 0, _, _ => rfl
  | n + 1, z, h => by
    show ky V (S ++ ws) (z - 1) n * 14 + dg V (S ++ ws) z = ky V S (z - 1) n * 14 + dg V S z
    rw [ky_pre n (by omega), dg_pre h]
theorem mod_s {a q b : Nat} (hb : b < 14) (hq : 0 < q) : (a * 14 + b) % (q * 14) = a % q * 14 + b := by
  have h1 := Nat.div_add_mod a q
  have h2 := Nat.mod_lt a hq
  have e : a * 14 + b = (a % q * 14 + b) + (q * 14) * (a / q) := by
    have : q * (a / q) * 14 = q * 14 * (a / q) := by rw [Nat.mul_assoc, Nat.mul_comm (a / q), ← Nat.mul_assoc]
    omega
  rw [e, Nat.add_mul_mod_self_left, Nat.mod_eq_of_lt]
  have : a % q * 14 + 14 ≤ q * 14 := by omega
  omega
theorem ky_cut {V : Nat} {S : List Nat} (hV : V ≤ 12) (hS : ∀ w ∈ S, w < V) : ∀ (n m : Nat) (z : Int), m ≤ n → ky V S z n % 14 ^ m = ky V S z m
  | n, 0, z, _ => by rw [Nat.pow_zero, Nat.mod_one]; rfl
  | 0, m + 1, z, h => absurd h (by omega)
  | n + 1, m + 1, z, h => by
    have h2 := dg_le hS z
    show (ky V S (z - 1) n * 14 + dg V S z) % 14 ^ (m + 1) = ky V S (z - 1) m * 14 + dg V S z
    rw [Nat.pow_succ, mod_s (by omega) (Nat.pow_pos (by omega)), ky_cut hV hS n m _ (by omega)]
