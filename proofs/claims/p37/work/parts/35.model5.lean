theorem ky_3 {V : Nat} {S : List Nat} (hV : V ≤ 12) (hS : ∀ w ∈ S, w < V) {n : Nat} (hn : n ≤ 3) (z : Int) : ky V S z n < 2744 := by
  have h1 := ky_lt hV hS n z
  have h2 : 14 ^ n ≤ 14 ^ 3 := Nat.pow_le_pow_right (by omega) hn
  have h3 : (14 : Nat) ^ 3 = 2744 := by decide
  omega
/-- a fold over places -/
def fl (f : Nat → Int → Int) : Nat → Int → Int
  | 0, d => d
  | n + 1, d => f n (fl f n d)
/-- a part of a key -/
def prt (k n p : Nat) : Int := ((k / p14 (n - 1 - p) % 14 : Nat) : Int) - 1
def enF (t : List (Nat × Nat)) (n e : Nat) (d : Int) : Int := fl (fun p d => d * 31 + prt (t.getD e (0, 0)).1 n p) n d * 31 + ((t.getD e (0, 0)).2 : Int)
def mxE (t : List (Nat × Nat)) (n : Nat) (d : Int) : Int := fl (enF t n) t.length (d * 31 + (t.length : Int))
def mcF (V : Nat) (p : Nat → Nat) (d : Int) : Int := fl (fun r d => d * 31 + (fw p V r : Int)) (V + 1) (fl (fun w d => d * 31 + (p w : Int)) (V + 1) d)
def dg1 (V N : Nat) (S : List Nat) : Int := fl (fun j d => d * 31 + (S.getD j 0 : Int)) S.length (((58041 * 31 + (V : Int)) * 31 + (N : Int)) * 31 + (S.length : Int))
def dg2 (V N : Nat) (S : List Nat) (T : Nat → List (Nat × Nat)) : Int := fl (fun j d => mxE (T j) (j + 1) d) N (dg1 V N S)
def ofc (V : Nat) (S : List Nat) (T : Nat → List (Nat × Nat)) (j : Nat) : Nat := ky V S ((S.length : Int) - 1) j
def dg3 (V N : Nat) (S : List Nat) (T : Nat → List (Nat × Nat)) : Int := fl (fun j d => (d * 31 + (rfS (T j) (ofc V S T j) V : Int)) * 31 + (kd (fun w => gt (T j) (ofc V S T j * 14 + w + 1)) (V + 1) : Int)) N (dg2 V N S T)
def dgs (V N way num : Nat) (S : List Nat) (T : Nat → List (Nat × Nat)) (lk dr en : Nat) : Int := (((mcF V (chz V N way num S T (S.length : Int)) (dg3 V N S T) * 31 + (scr V N way num S T : Int)) * 31 + (lk : Int)) * 31 + (dr : Int)) * 31 + (en : Int)
theorem getD_at {t : List (Nat × Nat)} {e : Nat} {b : Nat × Nat} (h : t[e]? = some b) : t.getD e (0, 0) = b := by
  rw [List.getD_eq_getElem?_getD, h]; rfl
theorem getD_n {t : List Nat} {e b : Nat} (h : t[e]? = some b) : t.getD e 0 = b := by
  rw [List.getD_eq_getElem?_getD, h]; rfl
theorem two_pos (n : Nat) : 1 ≤ 2 ^ n := Nat.one_le_two_pow
