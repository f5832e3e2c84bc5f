/-- the reference: its object and its rows; S, A what later calls show, s, B what they do not -/
def th_mp (ad : Nat → Nat → Nat) (S : Nat → Nat) (A : Nat → Nat → Int32) (s : Nat → Int32) (B : Nat → Nat → Int32) (hs : Int64) : List pm_A :=
  [.inr (12, [.ref (ad 8 1), .int (nI (S 1)), .int (nI (S 2)), .ref (ad 8 2), .ref (ad 8 3), .ref (ad 8 4), .int (nI (S 6)), .int (s 7), .int (s 8), .int (s 9), .ref (ad 8 5), .int (nI (S 11)), .ref (ad 8 6), .ref (ad 8 7), .ref (ad 8 8), .ref (ad 8 9), .ref (ad 8 10), .ref (ad 8 11), .ref (ad 8 12), .ref (ad 8 13), .ref (ad 8 14), .int (s 21), .int (s 22), .int (s 23), .int (s 24), .int (s 25), .int (nI (S 26)), .ref (ad 8 15), .ref (ad 8 16), .ref (ad 8 17), .int (s 30), .int (s 31), .ref (ad 8 18), .int (s 33), .int (nI (S 34)), .ref (ad 8 19), .ref (ad 8 20), .ref (ad 8 21), .ref (ad 8 22), .ref (ad 8 23), .int (nI (S 40)), .int (nI (S 41)), .int (nI (S 42)), .long hs]),
   .inl (0, 20, .inl (A 1)),
   .inl (0, 12, .inl (A 2)),
   .inl (0, 3, .inl (A 3)),
   .inl (0, 3, .inl (A 4)),
   .inl (0, 4, .inl (B 5)),
   .inl (0, 8, .inl (A 6)),
   .inl (0, 8, .inl (A 7)),
   .inl (0, 8, .inl (A 8)),
   .inl (0, 8, .inl (A 9)),
   .inl (0, 8, .inl (A 10)),
   .inl (0, 8, .inl (A 11)),
   .inl (0, 8, .inl (A 12)),
   .inl (2, 8, .inl (A 13)),
   .inl (0, 8, .inl (A 14)),
   .inl (0, 10, .inl (A 15)),
   .inl (0, 10, .inl (A 16)),
   .inl (0, 8, .inl (B 17)),
   .inl (0, 6, .inl (B 18)),
   .inl (0, 8, .inl (A 19)),
   .inl (0, 8, .inl (A 20)),
   .inl (0, 8, .inl (A 21)),
   .inl (0, 32, .inl (A 22)),
   .inl (0, 20, .inl (A 23))]

def th_cnt (f : Nat → Int32) (c : Int32) : Nat → Int32
  | 0 => 0
  | k + 1 => th_cnt f c k + (if f k = c then 1 else 0)
def th_alw (f : Nat → Int32) : Nat → Int32
  | 0 => 0
  | k + 1 => th_alw f k + (if 0 ≤ f k then f k else 0)
def th_n (x : Int32) : Nat := x.toNatClampNeg
def th_tf (A : Nat → Nat → Int32) (j : Nat) : Nat → Int32 := fun k => A 2 (4 * j + k)
/-- a School as the class has it, out of its terms -/
def th_sf (A : Nat → Nat → Int32) (j : Nat) : List Value := [.int (nI j), .int (A 4 j), .int (th_cnt (th_tf A j) (-120) (th_n (A 3 j))), .int (th_cnt (th_tf A j) (-121) (th_n (A 3 j))), .int (th_cnt (th_tf A j) (-109) (th_n (A 3 j))), .int (th_cnt (th_tf A j) (-108) (th_n (A 3 j))), .int (th_cnt (th_tf A j) (-104) (th_n (A 3 j))), .int (th_alw (th_tf A j) (th_n (A 3 j)))]
def th_g1 (S : Nat → Nat) (A : Nat → Nat → Int32) : Nat → Option pm_A := fun j => if j < S 2 then some (.inr (10, th_sf A j)) else none
def th_nf (ad : Nat → Nat → Nat) (A : Nat → Nat → Int32) (Y : Nat → Nat → Int32) (i : Nat) : List Value := [.ref (ad 1 (th_n (A 7 i))), .int (A 8 i), .int (nI i), .int (A 9 i), .int (A 10 i), .int (A 11 i), .int (A 12 i), .int (A 13 i), .int (A 14 i), .int (Y 20 i), .int (Y 21 i), .int (Y 22 i), .int (Y 23 i)]
def th_g2 (ad : Nat → Nat → Nat) (S : Nat → Nat) (A : Nat → Nat → Int32) (Y : Nat → Nat → Int32) : Nat → Option pm_A := fun i => if i < S 11 then some (.inr (pm_kc (th_n (A 6 i)), th_nf ad A Y i)) else none
def th_rs (ad : Nat → Nat → Nat) (g n : Nat) : Nat → Option Nat := fun j => if j < n then some (ad g j) else none
def th_kp (S : Nat → Nat) : Int32 := if S 42 = 0 then -1 else nI (S 40)
def th_g0 (ad : Nat → Nat → Nat) (S : Nat → Nat) (Y : Nat → Nat → Int32) : List pm_A := [.inr (11, [.ref (ad 3 0), .ref (ad 0 1), .ref (ad 0 2), .ref (ad 7 0), .ref (ad 4 0), .ref (ad 5 0), .ref (ad 6 0), .ref (ad 0 3), .int (nI (S 2)), .int (nI (S 11)), .int (nI (S 6)), .int (th_kp S)]), .inl (3, 3, .inr (.inr (.inr (.inr (th_rs ad 1 (S 2)))))), .inl (4, 8, .inr (.inr (.inr (.inr (th_rs ad 2 (S 11)))))), .inl (0, 4, .inl (Y 0))]
def th_g3 (ad : Nat → Nat → Nat) (S : Nat → Nat) (A : Nat → Nat → Int32) (X : Nat → Int32) (Y : Nat → Nat → Int32) : List pm_A := [.inr (6, [.ref (ad 3 1), .ref (ad 3 2), .int (nI (S 1)), .int (X 0), .int (X 1), .int (X 2)]), .inl (0, 20, .inl (A 1)), .inr (10, [.int (Y 1 0), .int (Y 1 1), .int (Y 1 2), .int (Y 1 3), .int (Y 1 4), .int (Y 1 5), .int (Y 1 6), .int (Y 1 7)])]
def th_g4 (ad : Nat → Nat → Nat) (S : Nat → Nat) (A : Nat → Nat → Int32) (X : Nat → Int32) (Y : Nat → Nat → Int32) : List pm_A := [.inr (3, [.int (nI (S 26)), .int (X 3), .int (X 4), .ref (ad 4 1), .ref (ad 4 2), .ref (ad 4 3), .ref (ad 4 4), .int (nI (S 41))]), .inl (0, 10, .inl (Y 2)), .inl (0, 10, .inl (Y 3)), .inl (0, 8, .inl (Y 4)), .inl (0, 8, .inl (Y 5))]
def th_g5 (ad : Nat → Nat → Nat) (X : Nat → Int32) (F : Nat → Int64) (Hd : Nat → Option Nat) : List pm_A := [.inr (9, [.ref (ad 5 1), .ref (ad 5 2), .int (X 5)]), .inl (4, 6, .inr (.inr (.inr (.inr Hd)))), .inl (1, 192, .inr (.inl F))]
def th_g6 (ad : Nat → Nat → Nat) (S : Nat → Nat) (A : Nat → Nat → Int32) (Cs : Nat → Option Nat) : List pm_A := [.inr (2, [.int (nI (S 34)), .ref (ad 6 1), .ref (ad 6 2), .ref (ad 6 3)]), .inl (3, 8, .inr (.inr (.inr (.inr Cs)))), .inl (0, 8, .inl (A 20)), .inl (0, 8, .inl (A 21))]
def th_g7 (X : Nat → Int32) : List pm_A := [.inr (1, [.int (X 10), .int (X 11), .int (X 12), .int (X 13), .int (X 14), .int (X 15)])]
-- numbers
theorem th_in {n N : Nat} (h : n < N) (hN : N < 2 ^ 31) : vp_in (nI n) N := vp_in_nI h hN
theorem th_cl {n : Nat} (h : n < 2 ^ 31) : (nI n).toNatClampNeg = n := nI_clamp h
theorem th_ne {x k : Int32} {z : Int} (h : ¬ x = k) (hk : k.toInt = z) : x.toInt ≠ z := fun e => h (Int32.toInt_inj.mp (e.trans hk.symm))
theorem th_loop {n : Nat} (P : Nat → Prop) (b : ∀ i, i ≤ n → (i < n → P (i + 1)) → P i) : ∀ i, i ≤ n → P i := by
  have h : ∀ d i, i + d = n → P i := by
    intro d
    induction d with
    | zero => exact fun i h => b i (by omega) (fun h2 => absurd h2 (by omega))
    | succ d ih => exact fun i h => b i (by omega) (fun _ => ih (i + 1) (by omega))
  exact fun i hi => h (n - i) i (by omega)
theorem th_n_nI {n : Nat} (h : n < 2 ^ 31) : th_n (nI n) = n := nI_clamp h

