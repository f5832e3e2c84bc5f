theorem rb_and (a b : Nat) : lN a &&& lN b = lN (a &&& b) := by
  apply Int64.toBitVec_inj.mp
  rw [Int64.toBitVec_and, th_lbv, th_lbv, th_lbv]
  apply BitVec.eq_of_toNat_eq
  rw [BitVec.toNat_and, BitVec.toNat_ofNat, BitVec.toNat_ofNat, BitVec.toNat_ofNat, Nat.and_mod_two_pow]
theorem rb_or (a b : Nat) : lN a ||| lN b = lN (a ||| b) := by
  apply Int64.toBitVec_inj.mp
  rw [Int64.toBitVec_or, th_lbv, th_lbv, th_lbv]
  apply BitVec.eq_of_toNat_eq
  rw [BitVec.toNat_or, BitVec.toNat_ofNat, BitVec.toNat_ofNat, BitVec.toNat_ofNat, Nat.or_mod_two_pow]
theorem rb_iand127 (n : Nat) : nI n &&& 127 = nI (n % 128) := by
  apply Int32.toBitVec_inj.mp
  rw [Int32.toBitVec_and, th_nbv, th_nbv]
  apply BitVec.eq_of_toNat_eq
  rw [BitVec.toNat_and, BitVec.toNat_ofNat, BitVec.toNat_ofNat, show (Int32.toBitVec 127).toNat = 2 ^ 7 - 1 from by decide, Nat.and_two_pow_sub_one_eq_mod]
  omega
/-- by bytes -/
theorem rb_by {a m H K : Nat} (ha : a < 256) (hm : m < 256) : (256 * H + a) &&& (256 * K + m) = 256 * (H &&& K) + (a &&& m) := by
  have e : (256 : Nat) = 2 ^ 8 := by decide
  have hx : a &&& m < 2 ^ 8 := Nat.and_lt_two_pow _ (by omega)
  refine Nat.eq_of_testBit_eq (fun j => ?_)
  rw [Nat.testBit_and, e, Nat.testBit_two_pow_mul_add _ (by omega), Nat.testBit_two_pow_mul_add _ (by omega), Nat.testBit_two_pow_mul_add _ hx]
  by_cases h : j < 8
  · rw [if_pos h, if_pos h, if_pos h, Nat.testBit_and]
  · rw [if_neg h, if_neg h, if_neg h, Nat.testBit_and]
def rb_m (x : Nat) : Nat → Nat
  | 0 => 0
  | k + 1 => 256 * rb_m x k + x
def rb_1 (k M : Nat) : Nat := M - ((M / 2) &&& rb_m 85 k)
def rb_2 (k M : Nat) : Nat := (M &&& rb_m 51 k) + ((M / 4) &&& rb_m 51 k)
def rb_3 (k M : Nat) : Nat := (M + M / 16) &&& rb_m 15 k
def rb_g (b : Nat) : Nat := rb_3 1 (rb_2 1 (rb_1 1 b))
def rb_p : Nat → Nat → Nat
  | 0, _ => 0
  | k + 1, M => 256 * rb_p k (M / 256) + rb_g (M % 256)
theorem rb_1s {k b H : Nat} (hb : b < 256) : rb_1 (k + 1) (256 * H + b) = 256 * rb_1 k H + rb_1 1 b := by
  unfold rb_1
  have t : ∀ b, b < 256 → ∀ e, e < 2 → ((b / 2 + 128 * e) &&& 85) = ((b / 2) &&& rb_m 85 1) := by decide +kernel
  have e1 : (256 * H + b) / 2 = 256 * (H / 2) + (b / 2 + 128 * (H % 2)) := by omega
  have l1 : (H / 2 &&& rb_m 85 k) ≤ H / 2 := Nat.and_le_left
  have l2 : (b / 2 &&& rb_m 85 1) ≤ b / 2 := Nat.and_le_left
  show 256 * H + b - ((256 * H + b) / 2 &&& (256 * rb_m 85 k + 85)) = _
  rw [e1, rb_by (by omega) (by omega), t b hb (H % 2) (by omega)]
  omega
theorem rb_2s {k b H : Nat} (hb : b < 256) : rb_2 (k + 1) (256 * H + b) = 256 * rb_2 k H + rb_2 1 b := by
  unfold rb_2
  have t : ∀ b, b < 256 → ∀ e, e < 4 → ((b / 4 + 64 * e) &&& 51) = ((b / 4) &&& rb_m 51 1) := by decide +kernel
  have e1 : (256 * H + b) / 4 = 256 * (H / 4) + (b / 4 + 64 * (H % 4)) := by omega
  show ((256 * H + b) &&& (256 * rb_m 51 k + 51)) + ((256 * H + b) / 4 &&& (256 * rb_m 51 k + 51)) = _
  rw [e1, rb_by hb (by omega), rb_by (by omega) (by omega), t b hb (H % 4) (by omega)]
  show _ = 256 * _ + ((b &&& 51) + _)
  omega
theorem rb_3s {k b H : Nat} (hb : b ≤ 68) (hH : H % 16 ≤ 4) : rb_3 (k + 1) (256 * H + b) = 256 * rb_3 k H + rb_3 1 b := by
  unfold rb_3
  have t : ∀ b, b < 69 → ∀ e, e < 5 → ((b + b / 16 + 16 * e) &&& 15) = ((b + b / 16) &&& rb_m 15 1) := by decide +kernel
  have e1 : (256 * H + b) + (256 * H + b) / 16 = 256 * (H + H / 16) + (b + b / 16 + 16 * (H % 16)) := by omega
  show ((256 * H + b) + (256 * H + b) / 16 &&& (256 * rb_m 15 k + 15)) = _
  rw [e1, rb_by (by omega) (by omega), t b (by omega) (H % 16) (by omega)]
theorem rb_1t : ∀ b, b < 256 → rb_1 1 b < 256 := by decide +kernel
theorem rb_2t : ∀ b, b < 256 → rb_2 1 (rb_1 1 b) ≤ 68 ∧ rb_2 1 (rb_1 1 b) % 16 ≤ 4 := by decide +kernel
theorem rb_low {k M : Nat} : rb_2 k (rb_1 k M) % 16 ≤ 4 := by
  cases k with
  | zero => simp [rb_2, rb_m]
  | succ k =>
    have e : M = 256 * (M / 256) + M % 256 := by omega
    rw [e, rb_1s (by omega), rb_2s (rb_1t _ (by omega))]
    have := (rb_2t (M % 256) (by omega)).2
    omega
theorem rb_all : ∀ k M, rb_3 k (rb_2 k (rb_1 k M)) = rb_p k M := by
  intro k
  induction k with
  | zero => intro M; simp [rb_3, rb_m, rb_p]
  | succ k ih =>
    intro M
    have e : M = 256 * (M / 256) + M % 256 := by omega
    have h : rb_3 (k + 1) (rb_2 (k + 1) (rb_1 (k + 1) M)) = 256 * rb_3 k (rb_2 k (rb_1 k (M / 256))) + rb_g (M % 256) := by
      have h2 := rb_2t (M % 256) (by omega)
      conv => lhs; rw [e]
      rw [rb_1s (by omega), rb_2s (rb_1t _ (by omega)), rb_3s h2.1 rb_low]
      rfl
    rw [h, ih]; rfl
theorem rb_gb : ∀ b, b < 256 → rb_g b = rh_c b.testBit 8 ∧ rb_g b ≤ 8 := by decide +kernel
theorem rb_csh (f : Nat → Bool) (a : Nat) : ∀ n, rh_c f (a + n) = rh_c f a + rh_c (fun j => f (a + j)) n := by
  intro n
  induction n with
  | zero => rfl
  | succ n ih =>
    show rh_c f (a + n) + (if f (a + n) = true then 1 else 0) = rh_c f a + (rh_c (fun j => f (a + j)) n + (if f (a + n) = true then 1 else 0))
    rw [ih, Nat.add_assoc]
theorem rb_c8 (M n : Nat) : rh_c M.testBit (8 + n) = rb_g (M % 256) + rh_c (M / 256).testBit n := by
  rw [rb_csh, (rb_gb (M % 256) (by omega)).1]
  congr 1
  · refine rh_cext 8 (fun j hj => ?_)
    rw [show (256 : Nat) = 2 ^ 8 from by decide, Nat.testBit_mod_two_pow]; simp [hj]
  · refine rh_cext n (fun j _ => ?_)
    rw [show (256 : Nat) = 2 ^ 8 from by decide, Nat.testBit_div_two_pow, Nat.add_comm]
theorem rb_g8 (b : Nat) : rb_g (b % 256) ≤ 8 := (rb_gb _ (by omega)).2
def rb_s (x k : Nat) : Nat := x + x / 2 ^ k
theorem rb_sum {a b c d e f g h : Nat} (ha : a ≤ 8) (hb : b ≤ 8) (hc : c ≤ 8) (hd : d ≤ 8) (he : e ≤ 8) (hf : f ≤ 8) (hg : g ≤ 8) (hh : h ≤ 8) : rb_s (rb_s (rb_s (256 * (256 * (256 * (256 * (256 * (256 * (256 * h + g) + f) + e) + d) + c) + b) + a) 8) 16) 32 % 128 = a + (b + (c + (d + (e + (f + (g + h)))))) := by
  have ex : ∀ P k K r, P = 2 ^ k → r < P → rb_s (P * K + r) k = P * K + r + K := by
    intro P k K r e hr
    subst e
    unfold rb_s
    rw [Nat.mul_add_div (Nat.two_pow_pos k), Nat.div_eq_of_lt hr, Nat.add_zero]
  rw [ex 256 8 _ a rfl (by omega)]
  rw [show 256 * (256 * (256 * (256 * (256 * (256 * (256 * h + g) + f) + e) + d) + c) + b) + a + (256 * (256 * (256 * (256 * (256 * (256 * h + g) + f) + e) + d) + c) + b) = 65536 * (256 * (256 * (256 * (256 * (256 * h + (g + h)) + (f + g)) + (e + f)) + (d + e)) + (c + d)) + (256 * (b + c) + (a + b)) from by omega]
  rw [ex 65536 16 _ _ rfl (by omega)]
  rw [show 65536 * (256 * (256 * (256 * (256 * (256 * h + (g + h)) + (f + g)) + (e + f)) + (d + e)) + (c + d)) + (256 * (b + c) + (a + b)) + (256 * (256 * (256 * (256 * (256 * h + (g + h)) + (f + g)) + (e + f)) + (d + e)) + (c + d)) = 4294967296 * (256 * (256 * (256 * h + (g + h)) + (f + g + h)) + (e + f + g + h)) + (16777216 * (d + e + f + g) + 65536 * (c + d + e + f) + 256 * (b + c + d + e) + (a + b + c + d)) from by omega]
  rw [ex 4294967296 32 _ _ rfl (by omega)]
  rw [show 4294967296 * (256 * (256 * (256 * h + (g + h)) + (f + g + h)) + (e + f + g + h)) + (16777216 * (d + e + f + g) + 65536 * (c + d + e + f) + 256 * (b + c + d + e) + (a + b + c + d)) + (256 * (256 * (256 * h + (g + h)) + (f + g + h)) + (e + f + g + h)) = 128 * (33554432 * (256 * (256 * (256 * h + (g + h)) + (f + g + h)) + (e + f + g + h)) + 131072 * (d + e + f + g) + 512 * (c + d + e + f) + 2 * (b + c + d + e) + 2 * (256 * (256 * h + (g + h)) + (f + g + h))) + (a + (b + (c + (d + (e + (f + (g + h))))))) from by omega]
  rw [Nat.mul_add_mod, Nat.mod_eq_of_lt (by omega)]
theorem rb_p8 (M : Nat) (hM : M < 2 ^ 64) : rb_p 8 M < 2 ^ 60 ∧ rb_s (rb_s (rb_s (rb_p 8 M) 8) 16) 32 % 128 = rh_c M.testBit 64 := by
  have e : rb_p 8 M = 256 * (256 * (256 * (256 * (256 * (256 * (256 * rb_g (M / 256 / 256 / 256 / 256 / 256 / 256 / 256 % 256) + rb_g (M / 256 / 256 / 256 / 256 / 256 / 256 % 256)) + rb_g (M / 256 / 256 / 256 / 256 / 256 % 256)) + rb_g (M / 256 / 256 / 256 / 256 % 256)) + rb_g (M / 256 / 256 / 256 % 256)) + rb_g (M / 256 / 256 % 256)) + rb_g (M / 256 % 256)) + rb_g (M % 256) := by
    show 256 * (256 * (256 * (256 * (256 * (256 * (256 * (256 * 0 + _) + _) + _) + _) + _) + _) + _) + _ = _
    rw [Nat.mul_zero, Nat.zero_add]
  rw [e]
  have g0 := rb_g8 M
  have g1 := rb_g8 (M / 256)
  have g2 := rb_g8 (M / 256 / 256)
  have g3 := rb_g8 (M / 256 / 256 / 256)
  have g4 := rb_g8 (M / 256 / 256 / 256 / 256)
  have g5 := rb_g8 (M / 256 / 256 / 256 / 256 / 256)
  have g6 := rb_g8 (M / 256 / 256 / 256 / 256 / 256 / 256)
  have g7 := rb_g8 (M / 256 / 256 / 256 / 256 / 256 / 256 / 256)
  refine ⟨by omega, ?_⟩
  rw [rb_sum g0 g1 g2 g3 g4 g5 g6 g7, show (64 : Nat) = 8 + (8 + (8 + (8 + (8 + (8 + (8 + (8 + 0))))))) from rfl]
  rw [rb_c8, rb_c8, rb_c8, rb_c8, rb_c8, rb_c8, rb_c8, rb_c8]
  rfl
def rb_bc (x : Int64) : Int32 :=
  let sh (x : Int64) (k : Int32) : Int64 := (x.toUInt64 >>> (k.toInt64.toUInt64 &&& Int64.toUInt64 63)).toInt64
  let x1 := x - (sh x 1 &&& 6148914691236517205)
  let x2 := (x1 &&& 3689348814741910323) + (sh x1 2 &&& 3689348814741910323)
  let x3 := (x2 + sh x2 4) &&& 1085102592571150095
  let x4 := x3 + sh x3 8
  let x5 := x4 + sh x4 16
  let x6 := x5 + sh x5 32
  x6.toInt32 &&& 127
theorem rb_sh {n : Nat} (k : Nat) (hk : k < 64) (hn : n < 2 ^ 64) : ((lN n).toUInt64 >>> ((nI k).toInt64.toUInt64 &&& Int64.toUInt64 63)).toInt64 = lN (n / 2 ^ k) := th_ush hn _ (th_shy k hk)
theorem rb_le2 {M : Nat} (k : Nat) : rb_2 k M ≤ M + M / 4 := Nat.add_le_add Nat.and_le_left Nat.and_le_left
theorem rb_2lt {M : Nat} : rb_2 8 M < 2 ^ 63 := by
  have h1 : (M &&& rb_m 51 8) ≤ rb_m 51 8 := Nat.and_le_right
  have h2 : (M / 4 &&& rb_m 51 8) ≤ rb_m 51 8 := Nat.and_le_right
  have h3 : rb_m 51 8 = 3689348814741910323 := by decide
  unfold rb_2
  omega
theorem rb_bcN {M : Nat} (hM : M < 2 ^ 64) : rb_bc (lN M) = nI (rh_c M.testBit 64) := by
  have p := rb_p8 M hM
  have a := rb_all 8 M
  have l1 : rb_1 8 M < 2 ^ 64 := Nat.lt_of_le_of_lt (Nat.sub_le _ _) hM
  have l2 : rb_2 8 (rb_1 8 M) < 2 ^ 63 := rb_2lt
  have c1 : lN M - (((lN M).toUInt64 >>> ((nI 1).toInt64.toUInt64 &&& Int64.toUInt64 63)).toInt64 &&& lN (rb_m 85 8)) = lN (rb_1 8 M) := by
    rw [rb_sh 1 (by decide) hM, rb_and, lN_sub (Nat.le_trans Nat.and_le_left (Nat.div_le_self _ _))]; rfl
  have c2 : (lN (rb_1 8 M) &&& lN (rb_m 51 8)) + (((lN (rb_1 8 M)).toUInt64 >>> ((nI 2).toInt64.toUInt64 &&& Int64.toUInt64 63)).toInt64 &&& lN (rb_m 51 8)) = lN (rb_2 8 (rb_1 8 M)) := by
    rw [rb_sh 2 (by decide) l1, rb_and, rb_and, lN_add]; rfl
  have c3 : (lN (rb_2 8 (rb_1 8 M)) + ((lN (rb_2 8 (rb_1 8 M))).toUInt64 >>> ((nI 4).toInt64.toUInt64 &&& Int64.toUInt64 63)).toInt64) &&& lN (rb_m 15 8) = lN (rb_p 8 M) := by
    rw [rb_sh 4 (by decide) (by omega), lN_add, rb_and, ← a]; rfl
  have s1 : ∀ x k, k < 64 → x < 2 ^ 64 → lN x + ((lN x).toUInt64 >>> ((nI k).toInt64.toUInt64 &&& Int64.toUInt64 63)).toInt64 = lN (rb_s x k) := by
    intro x k hk hx
    rw [rb_sh k hk hx, lN_add]; rfl
  have b1 : rb_s (rb_p 8 M) 8 < 2 ^ 61 := by unfold rb_s; omega
  have b2 : rb_s (rb_s (rb_p 8 M) 8) 16 < 2 ^ 62 := by
    have : rb_s (rb_s (rb_p 8 M) 8) 16 = rb_s (rb_p 8 M) 8 + rb_s (rb_p 8 M) 8 / 2 ^ 16 := rfl
    omega
  show (((lN M) |> fun x => _) : Int32) = _
  show rb_bc (lN M) = _
  unfold rb_bc
  show Int64.toInt32 _ &&& 127 = _
  rw [show (6148914691236517205 : Int64) = lN (rb_m 85 8) from by decide, show (3689348814741910323 : Int64) = lN (rb_m 51 8) from by decide, show (1085102592571150095 : Int64) = lN (rb_m 15 8) from by decide, show (1 : Int32) = nI 1 from rfl, show (2 : Int32) = nI 2 from rfl, show (4 : Int32) = nI 4 from rfl, show (8 : Int32) = nI 8 from rfl, show (16 : Int32) = nI 16 from rfl, show (32 : Int32) = nI 32 from rfl]
  rw [c1, c2, c3, s1 _ 8 (by decide) (by omega), s1 _ 16 (by decide) (by omega), s1 _ 32 (by decide) (by omega), lN_i, rb_iand127, p.2]
/-- the lowest -/
theorem rb_odd {M t : Nat} (h : M.testBit t = true) (hl : ∀ j, j < t → M.testBit j = false) : ∃ k, M = 2 ^ t * (2 * k + 1) := by
  have h1 : M % 2 ^ t = 0 := by
    refine Nat.eq_of_testBit_eq (fun j => ?_)
    rw [Nat.testBit_mod_two_pow, Nat.zero_testBit]
    by_cases e : j < t
    · simp [e, hl j e]
    · simp [e]
  have h2 : M / 2 ^ t % 2 = 1 := by
    rw [Nat.testBit_eq_decide_div_mod_eq] at h; exact of_decide_eq_true h
  refine ⟨M / 2 ^ t / 2, ?_⟩
  have h3 := Nat.div_add_mod M (2 ^ t)
  rw [h1, Nat.add_zero] at h3
  rw [show 2 * (M / 2 ^ t / 2) + 1 = M / 2 ^ t from by omega, h3]
theorem rb_ob (t k j : Nat) : (2 ^ t * (2 * k + 1)).testBit j = (decide (t = j) || (decide (t < j) && k.testBit (j - t - 1))) := by
  rw [Nat.testBit_two_pow_mul]
  by_cases h : j < t
  · simp [show ¬ t ≤ j by omega, show ¬ t = j by omega, show ¬ t < j by omega]
  · by_cases e : t = j
    · subst e; simp
    · obtain ⟨d, rfl⟩ : ∃ d, j = t + 1 + d := ⟨j - t - 1, by omega⟩
      rw [show t + 1 + d - t = d + 1 from by omega, show d + 1 - 1 = d from rfl, Nat.testBit_succ, show (2 * k + 1) / 2 = k from by omega]
      simp [show t ≤ t + 1 + d by omega, show ¬ t = t + 1 + d by omega, show t < t + 1 + d by omega]
theorem rb_om (t k j : Nat) : (2 ^ t * (2 * k + 1) - 1).testBit j = (decide (j < t) || (decide (t < j) && k.testBit (j - t - 1))) := by
  have hp := Nat.two_pow_pos t
  have e : 2 ^ t * (2 * k + 1) - 1 = 2 ^ t * (2 * k) + (2 ^ t - 1) := by rw [Nat.mul_add]; omega
  rw [e, Nat.testBit_two_pow_mul_add _ (by omega)]
  by_cases h : j < t
  · rw [if_pos h, Nat.testBit_two_pow_sub_one]; simp [h]
  · rw [if_neg h]
    by_cases e : t = j
    · subst e; simp
    · obtain ⟨d, rfl⟩ : ∃ d, j = t + 1 + d := ⟨j - t - 1, by omega⟩
      rw [show t + 1 + d - t = d + 1 from by omega, show d + 1 - 1 = d from rfl, Nat.testBit_succ, show 2 * k / 2 = k from by omega]
      simp [show ¬ t + 1 + d < t by omega, show t < t + 1 + d by omega]
theorem rb_clr {M t : Nat} (h : M.testBit t = true) (hl : ∀ j, j < t → M.testBit j = false) (j : Nat) : (M &&& (M - 1)).testBit j = (M.testBit j && !decide (j = t)) := by
  obtain ⟨k, rfl⟩ := rb_odd h hl
  rw [Nat.testBit_and, rb_ob, rb_om]
  by_cases e : t = j
  · subst e; simp
  · have e2 : ¬ j = t := fun q => e q.symm
    by_cases h : j < t
    · simp [h, e, e2, show ¬ t < j by omega]
    · simp [h, e, e2, show t < j by omega]
theorem rb_ntz {x t : Nat} (hx : x < 2 ^ 32) (h : x.testBit t = true) (hl : ∀ j, j < t → x.testBit j = false) : (nI x ^^^ (-1)) &&& (nI x - 1) = nI (2 ^ t - 1) := by
  obtain ⟨k, e⟩ := rb_odd h hl
  have hx0 : 0 < x := by rw [e]; exact Nat.mul_pos (Nat.two_pow_pos t) (by omega)
  have ht : t < 32 := by
    cases Nat.lt_or_ge t 32 with
    | inl h => exact h
    | inr h2 => rw [Nat.testBit_lt_two_pow (Nat.lt_of_lt_of_le hx (Nat.pow_le_pow_right (by omega) h2))] at h; exact absurd h (by decide)
  rw [show nI x - 1 = nI (x - 1) from pk_sub hx0]
  apply Int32.toBitVec_inj.mp
  rw [Int32.toBitVec_and, Int32.toBitVec_xor, th_nbv, th_nbv, th_nbv]
  apply BitVec.eq_of_toNat_eq
  have p2 : 2 ^ t ≤ 2 ^ 31 := Nat.pow_le_pow_right (by omega) (by omega)
  rw [BitVec.toNat_and, BitVec.toNat_xor, BitVec.toNat_ofNat, BitVec.toNat_ofNat, BitVec.toNat_ofNat, show (Int32.toBitVec (-1)).toNat = 2 ^ 32 - 1 from by decide, Nat.mod_eq_of_lt hx, Nat.mod_eq_of_lt (show x - 1 < 2 ^ 32 by omega), Nat.mod_eq_of_lt (show 2 ^ t - 1 < 2 ^ 32 by omega)]
  refine Nat.eq_of_testBit_eq (fun j => ?_)
  rw [Nat.testBit_and, Nat.testBit_xor, Nat.testBit_two_pow_sub_one, Nat.testBit_two_pow_sub_one]
  by_cases h32 : j < 32
  · rw [e, rb_ob, rb_om]
    by_cases e : t = j
    · subst e; simp [h32]
    · by_cases h : j < t
      · simp [h, e, show ¬ t < j by omega, h32]
      · cases hk : k.testBit (j - t - 1) <;> simp [h, e, show t < j by omega, h32, hk]
  · rw [Nat.testBit_lt_two_pow (show x - 1 < 2 ^ j from Nat.lt_of_lt_of_le (show x - 1 < 2 ^ 32 by omega) (Nat.pow_le_pow_right (by omega) (by omega)))]
    simp; omega
theorem rb_one : ∀ v, v < 63 → (1 : Int64) <<< ((nI v).toInt64 &&& 63) = lN (2 ^ v) := by decide +kernel

set_option maxHeartbeats 600000 in
set_option maxRecDepth 100000 in
theorem c_LbitCount {l : Launch} {G : pm_G} {ad : Nat → Nat → Nat} {w : pm_V} {Q : pm_T} {M : Nat} (hM : M < 2 ^ 64) (hQ : Q ad (some (.int (nI (rh_c M.testBit 64)))) w) : pm_C l G m_J13_bitCount_95d88 [.long (lN M)] ad w Q := by
  refine pm_met (by decide) (Nat.le_of_ble_eq_true rfl) ?_
  refine pm_lload_n dJ13_bitCount_95d88_0 rfl rfl ?_
  refine pm_lload_n dJ13_bitCount_95d88_1 rfl rfl ?_
  refine pm_iconst (v := 1) dJ13_bitCount_95d88_2 (by decide) ?_
  refine pm_lushr dJ13_bitCount_95d88_3 ?_
  refine pm_ldc2 kw_753 dJ13_bitCount_95d88_4 ?_
  refine pm_land dJ13_bitCount_95d88_7 ?_
  refine pm_lsub dJ13_bitCount_95d88_8 ?_
  refine pm_lstore_n (lv2 := [(0, _)]) dJ13_bitCount_95d88_9 rfl (Nat.le_of_ble_eq_true rfl) rfl ?_
  refine pm_lload_n dJ13_bitCount_95d88_10 rfl rfl ?_
  refine pm_ldc2 kw_754 dJ13_bitCount_95d88_11 ?_
  refine pm_land dJ13_bitCount_95d88_14 ?_
  refine pm_lload_n dJ13_bitCount_95d88_15 rfl rfl ?_
  refine pm_iconst (v := 2) dJ13_bitCount_95d88_16 (by decide) ?_
  refine pm_lushr dJ13_bitCount_95d88_17 ?_
  refine pm_ldc2 kw_754 dJ13_bitCount_95d88_18 ?_
  refine pm_land dJ13_bitCount_95d88_21 ?_
  refine pm_ladd dJ13_bitCount_95d88_22 ?_
  refine pm_lstore_n (lv2 := [(0, _)]) dJ13_bitCount_95d88_23 rfl (Nat.le_of_ble_eq_true rfl) rfl ?_
  refine pm_lload_n dJ13_bitCount_95d88_24 rfl rfl ?_
  refine pm_lload_n dJ13_bitCount_95d88_25 rfl rfl ?_
  refine pm_iconst (v := 4) dJ13_bitCount_95d88_26 (by decide) ?_
  refine pm_lushr dJ13_bitCount_95d88_27 ?_
  refine pm_ladd dJ13_bitCount_95d88_28 ?_
  refine pm_ldc2 kw_755 dJ13_bitCount_95d88_29 ?_
  refine pm_land dJ13_bitCount_95d88_32 ?_
  refine pm_lstore_n (lv2 := [(0, _)]) dJ13_bitCount_95d88_33 rfl (Nat.le_of_ble_eq_true rfl) rfl ?_
  refine pm_lload_n dJ13_bitCount_95d88_34 rfl rfl ?_
  refine pm_lload_n dJ13_bitCount_95d88_35 rfl rfl ?_
  refine pm_bipush (v := 8) dJ13_bitCount_95d88_36 (by decide) ?_
  refine pm_lushr dJ13_bitCount_95d88_38 ?_
  refine pm_ladd dJ13_bitCount_95d88_39 ?_
  refine pm_lstore_n (lv2 := [(0, _)]) dJ13_bitCount_95d88_40 rfl (Nat.le_of_ble_eq_true rfl) rfl ?_
  refine pm_lload_n dJ13_bitCount_95d88_41 rfl rfl ?_
  refine pm_lload_n dJ13_bitCount_95d88_42 rfl rfl ?_
  refine pm_bipush (v := 16) dJ13_bitCount_95d88_43 (by decide) ?_
  refine pm_lushr dJ13_bitCount_95d88_45 ?_
  refine pm_ladd dJ13_bitCount_95d88_46 ?_
  refine pm_lstore_n (lv2 := [(0, _)]) dJ13_bitCount_95d88_47 rfl (Nat.le_of_ble_eq_true rfl) rfl ?_
  refine pm_lload_n dJ13_bitCount_95d88_48 rfl rfl ?_
  refine pm_lload_n dJ13_bitCount_95d88_49 rfl rfl ?_
  refine pm_bipush (v := 32) dJ13_bitCount_95d88_50 (by decide) ?_
  refine pm_lushr dJ13_bitCount_95d88_52 ?_
  refine pm_ladd dJ13_bitCount_95d88_53 ?_
  refine pm_lstore_n (lv2 := [(0, _)]) dJ13_bitCount_95d88_54 rfl (Nat.le_of_ble_eq_true rfl) rfl ?_
  refine pm_lload_n dJ13_bitCount_95d88_55 rfl rfl ?_
  refine pm_l2i dJ13_bitCount_95d88_56 ?_
  refine pm_bipush (v := 127) dJ13_bitCount_95d88_57 (by decide) ?_
  refine pm_iand dJ13_bitCount_95d88_59 ?_
  refine pm_iret dJ13_bitCount_95d88_60 rfl rfl rfl ?_
  exact th_r (rb_bcN hM).symm hQ

def rb_n5 (n z : Int32) : Int32 := n + (Int32.toUInt32 z >>> (Int32.toUInt32 1 &&& Int32.toUInt32 31)).toInt32
def rb_n4 (n z : Int32) : Int32 := if z ≤ 4 then rb_n5 n z else rb_n5 (n + Int32.ofInt 2) (Int32.toUInt32 z >>> (Int32.toUInt32 2 &&& Int32.toUInt32 31)).toInt32
def rb_n3 (n z : Int32) : Int32 := if z ≤ 16 then rb_n4 n z else rb_n4 (n + Int32.ofInt 4) (Int32.toUInt32 z >>> (Int32.toUInt32 4 &&& Int32.toUInt32 31)).toInt32
def rb_n2 (n z : Int32) : Int32 := if z ≤ 256 then rb_n3 n z else rb_n3 (n + Int32.ofInt 8) (Int32.toUInt32 z >>> (Int32.toUInt32 8 &&& Int32.toUInt32 31)).toInt32
def rb_n1 (n z : Int32) : Int32 := if z ≤ 65536 then rb_n2 n z else rb_n2 (n + Int32.ofInt 16) (Int32.toUInt32 z >>> (Int32.toUInt32 16 &&& Int32.toUInt32 31)).toInt32
def rb_nt (z : Int32) : Int32 := if 0 < z then rb_n1 1 z else z &&& 32
theorem rb_nto : ∀ t, t < 32 → rb_nt (nI (2 ^ t - 1)) = nI t := by decide +kernel
set_option maxHeartbeats 600000 in
set_option maxRecDepth 100000 in
theorem f_ntz {l : Launch} {G : pm_G} {ad : Nat → Nat → Nat} {w : pm_V} {Q : pm_T} (t : Nat) (ht : t < 32) (hQ : Q ad (some (.int (nI t))) w) : pm_W l G m_J6_numberOfTrailingZeros_0f7a4 ad 8 [(0, .int (nI (2 ^ t - 1)))] [] w 0 0 Q := by
  refine pm_iload_n dJ6_numberOfTrailingZeros_0f7a4_8 rfl rfl ?_
  refine pm_if_gt (tgt := 17) dJ6_numberOfTrailingZeros_0f7a4_9 (by decide) (fun c_9 => ?_) (fun c_9 => ?_)
  · refine pm_iconst (v := 1) dJ6_numberOfTrailingZeros_0f7a4_17 (by decide) ?_
    refine pm_istore_n (lv2 := [(1, _), (0, _)]) dJ6_numberOfTrailingZeros_0f7a4_18 rfl (Nat.le_of_ble_eq_true rfl) rfl ?_
    refine pm_iload_n dJ6_numberOfTrailingZeros_0f7a4_19 rfl rfl ?_
    refine pm_ldcw kw_762 dJ6_numberOfTrailingZeros_0f7a4_20 ?_
    refine pm_icmp_le (tgt := 34) dJ6_numberOfTrailingZeros_0f7a4_23 (by decide) (fun c_23 => ?_) (fun c_23 => ?_)
    · refine pm_iload_n dJ6_numberOfTrailingZeros_0f7a4_34 rfl rfl ?_
      refine pm_sipush (v := 256) dJ6_numberOfTrailingZeros_0f7a4_35 (by decide) ?_
      refine pm_icmp_le (tgt := 49) dJ6_numberOfTrailingZeros_0f7a4_38 (by decide) (fun c_38 => ?_) (fun c_38 => ?_)
      · refine pm_iload_n dJ6_numberOfTrailingZeros_0f7a4_49 rfl rfl ?_
        refine pm_bipush (v := 16) dJ6_numberOfTrailingZeros_0f7a4_50 (by decide) ?_
        refine pm_icmp_le (tgt := 62) dJ6_numberOfTrailingZeros_0f7a4_52 (by decide) (fun c_52 => ?_) (fun c_52 => ?_)
        · refine pm_iload_n dJ6_numberOfTrailingZeros_0f7a4_62 rfl rfl ?_
          refine pm_iconst (v := 4) dJ6_numberOfTrailingZeros_0f7a4_63 (by decide) ?_
          refine pm_icmp_le (tgt := 74) dJ6_numberOfTrailingZeros_0f7a4_64 (by decide) (fun c_64 => ?_) (fun c_64 => ?_)
          · refine pm_iload_n dJ6_numberOfTrailingZeros_0f7a4_74 rfl rfl ?_
            refine pm_iload_n dJ6_numberOfTrailingZeros_0f7a4_75 rfl rfl ?_
            refine pm_iconst (v := 1) dJ6_numberOfTrailingZeros_0f7a4_76 (by decide) ?_
            refine pm_iushr dJ6_numberOfTrailingZeros_0f7a4_77 ?_
            refine pm_iadd dJ6_numberOfTrailingZeros_0f7a4_78 ?_
            refine pm_iret dJ6_numberOfTrailingZeros_0f7a4_79 rfl rfl rfl ?_
            refine th_r ?_ hQ
            rw [← rb_nto t ht, rb_nt]
            first | rw [if_pos c_9] | rw [if_neg c_9]
            rw [rb_n1]
            first | rw [if_pos c_23] | rw [if_neg c_23]
            rw [rb_n2]
            first | rw [if_pos c_38] | rw [if_neg c_38]
            rw [rb_n3]
            first | rw [if_pos c_52] | rw [if_neg c_52]
            rw [rb_n4]
            first | rw [if_pos c_64] | rw [if_neg c_64]
            rfl
          · refine pm_iinc (lv2 := [(1, _), (0, _)]) dJ6_numberOfTrailingZeros_0f7a4_67 rfl rfl (Nat.le_of_ble_eq_true rfl) rfl ?_
            refine pm_iload_n dJ6_numberOfTrailingZeros_0f7a4_70 rfl rfl ?_
            refine pm_iconst (v := 2) dJ6_numberOfTrailingZeros_0f7a4_71 (by decide) ?_
            refine pm_iushr dJ6_numberOfTrailingZeros_0f7a4_72 ?_
            refine pm_istore_n (lv2 := [(0, _), (1, _)]) dJ6_numberOfTrailingZeros_0f7a4_73 rfl (Nat.le_of_ble_eq_true rfl) rfl ?_
            refine pm_iload_n dJ6_numberOfTrailingZeros_0f7a4_74 rfl rfl ?_
            refine pm_iload_n dJ6_numberOfTrailingZeros_0f7a4_75 rfl rfl ?_
            refine pm_iconst (v := 1) dJ6_numberOfTrailingZeros_0f7a4_76 (by decide) ?_
            refine pm_iushr dJ6_numberOfTrailingZeros_0f7a4_77 ?_
            refine pm_iadd dJ6_numberOfTrailingZeros_0f7a4_78 ?_
            refine pm_iret dJ6_numberOfTrailingZeros_0f7a4_79 rfl rfl rfl ?_
            refine th_r ?_ hQ
            rw [← rb_nto t ht, rb_nt]
            first | rw [if_pos c_9] | rw [if_neg c_9]
            rw [rb_n1]
            first | rw [if_pos c_23] | rw [if_neg c_23]
            rw [rb_n2]
            first | rw [if_pos c_38] | rw [if_neg c_38]
            rw [rb_n3]
            first | rw [if_pos c_52] | rw [if_neg c_52]
            rw [rb_n4]
            first | rw [if_pos c_64] | rw [if_neg c_64]
            rfl
        · refine pm_iinc (lv2 := [(1, _), (0, _)]) dJ6_numberOfTrailingZeros_0f7a4_55 rfl rfl (Nat.le_of_ble_eq_true rfl) rfl ?_
          refine pm_iload_n dJ6_numberOfTrailingZeros_0f7a4_58 rfl rfl ?_
          refine pm_iconst (v := 4) dJ6_numberOfTrailingZeros_0f7a4_59 (by decide) ?_
          refine pm_iushr dJ6_numberOfTrailingZeros_0f7a4_60 ?_
          refine pm_istore_n (lv2 := [(0, _), (1, _)]) dJ6_numberOfTrailingZeros_0f7a4_61 rfl (Nat.le_of_ble_eq_true rfl) rfl ?_
          refine pm_iload_n dJ6_numberOfTrailingZeros_0f7a4_62 rfl rfl ?_
          refine pm_iconst (v := 4) dJ6_numberOfTrailingZeros_0f7a4_63 (by decide) ?_
          refine pm_icmp_le (tgt := 74) dJ6_numberOfTrailingZeros_0f7a4_64 (by decide) (fun c_64 => ?_) (fun c_64 => ?_)
          · refine pm_iload_n dJ6_numberOfTrailingZeros_0f7a4_74 rfl rfl ?_
            refine pm_iload_n dJ6_numberOfTrailingZeros_0f7a4_75 rfl rfl ?_
            refine pm_iconst (v := 1) dJ6_numberOfTrailingZeros_0f7a4_76 (by decide) ?_
            refine pm_iushr dJ6_numberOfTrailingZeros_0f7a4_77 ?_
            refine pm_iadd dJ6_numberOfTrailingZeros_0f7a4_78 ?_
            refine pm_iret dJ6_numberOfTrailingZeros_0f7a4_79 rfl rfl rfl ?_
            refine th_r ?_ hQ
            rw [← rb_nto t ht, rb_nt]
            first | rw [if_pos c_9] | rw [if_neg c_9]
            rw [rb_n1]
            first | rw [if_pos c_23] | rw [if_neg c_23]
            rw [rb_n2]
            first | rw [if_pos c_38] | rw [if_neg c_38]
            rw [rb_n3]
            first | rw [if_pos c_52] | rw [if_neg c_52]
            rw [rb_n4]
            first | rw [if_pos c_64] | rw [if_neg c_64]
            rfl
          · refine pm_iinc (lv2 := [(1, _), (0, _)]) dJ6_numberOfTrailingZeros_0f7a4_67 rfl rfl (Nat.le_of_ble_eq_true rfl) rfl ?_
            refine pm_iload_n dJ6_numberOfTrailingZeros_0f7a4_70 rfl rfl ?_
            refine pm_iconst (v := 2) dJ6_numberOfTrailingZeros_0f7a4_71 (by decide) ?_
            refine pm_iushr dJ6_numberOfTrailingZeros_0f7a4_72 ?_
            refine pm_istore_n (lv2 := [(0, _), (1, _)]) dJ6_numberOfTrailingZeros_0f7a4_73 rfl (Nat.le_of_ble_eq_true rfl) rfl ?_
            refine pm_iload_n dJ6_numberOfTrailingZeros_0f7a4_74 rfl rfl ?_
            refine pm_iload_n dJ6_numberOfTrailingZeros_0f7a4_75 rfl rfl ?_
            refine pm_iconst (v := 1) dJ6_numberOfTrailingZeros_0f7a4_76 (by decide) ?_
            refine pm_iushr dJ6_numberOfTrailingZeros_0f7a4_77 ?_
            refine pm_iadd dJ6_numberOfTrailingZeros_0f7a4_78 ?_
            refine pm_iret dJ6_numberOfTrailingZeros_0f7a4_79 rfl rfl rfl ?_
            refine th_r ?_ hQ
            rw [← rb_nto t ht, rb_nt]
            first | rw [if_pos c_9] | rw [if_neg c_9]
            rw [rb_n1]
            first | rw [if_pos c_23] | rw [if_neg c_23]
            rw [rb_n2]
            first | rw [if_pos c_38] | rw [if_neg c_38]
            rw [rb_n3]
            first | rw [if_pos c_52] | rw [if_neg c_52]
            rw [rb_n4]
            first | rw [if_pos c_64] | rw [if_neg c_64]
            rfl
      · refine pm_iinc (lv2 := [(1, _), (0, _)]) dJ6_numberOfTrailingZeros_0f7a4_41 rfl rfl (Nat.le_of_ble_eq_true rfl) rfl ?_
        refine pm_iload_n dJ6_numberOfTrailingZeros_0f7a4_44 rfl rfl ?_
        refine pm_bipush (v := 8) dJ6_numberOfTrailingZeros_0f7a4_45 (by decide) ?_
        refine pm_iushr dJ6_numberOfTrailingZeros_0f7a4_47 ?_
        refine pm_istore_n (lv2 := [(0, _), (1, _)]) dJ6_numberOfTrailingZeros_0f7a4_48 rfl (Nat.le_of_ble_eq_true rfl) rfl ?_
        refine pm_iload_n dJ6_numberOfTrailingZeros_0f7a4_49 rfl rfl ?_
        refine pm_bipush (v := 16) dJ6_numberOfTrailingZeros_0f7a4_50 (by decide) ?_
        refine pm_icmp_le (tgt := 62) dJ6_numberOfTrailingZeros_0f7a4_52 (by decide) (fun c_52 => ?_) (fun c_52 => ?_)
        · refine pm_iload_n dJ6_numberOfTrailingZeros_0f7a4_62 rfl rfl ?_
          refine pm_iconst (v := 4) dJ6_numberOfTrailingZeros_0f7a4_63 (by decide) ?_
          refine pm_icmp_le (tgt := 74) dJ6_numberOfTrailingZeros_0f7a4_64 (by decide) (fun c_64 => ?_) (fun c_64 => ?_)
          · refine pm_iload_n dJ6_numberOfTrailingZeros_0f7a4_74 rfl rfl ?_
            refine pm_iload_n dJ6_numberOfTrailingZeros_0f7a4_75 rfl rfl ?_
            refine pm_iconst (v := 1) dJ6_numberOfTrailingZeros_0f7a4_76 (by decide) ?_
            refine pm_iushr dJ6_numberOfTrailingZeros_0f7a4_77 ?_
            refine pm_iadd dJ6_numberOfTrailingZeros_0f7a4_78 ?_
            refine pm_iret dJ6_numberOfTrailingZeros_0f7a4_79 rfl rfl rfl ?_
            refine th_r ?_ hQ
            rw [← rb_nto t ht, rb_nt]
            first | rw [if_pos c_9] | rw [if_neg c_9]
            rw [rb_n1]
            first | rw [if_pos c_23] | rw [if_neg c_23]
            rw [rb_n2]
            first | rw [if_pos c_38] | rw [if_neg c_38]
            rw [rb_n3]
            first | rw [if_pos c_52] | rw [if_neg c_52]
            rw [rb_n4]
            first | rw [if_pos c_64] | rw [if_neg c_64]
            rfl
          · refine pm_iinc (lv2 := [(1, _), (0, _)]) dJ6_numberOfTrailingZeros_0f7a4_67 rfl rfl (Nat.le_of_ble_eq_true rfl) rfl ?_
            refine pm_iload_n dJ6_numberOfTrailingZeros_0f7a4_70 rfl rfl ?_
            refine pm_iconst (v := 2) dJ6_numberOfTrailingZeros_0f7a4_71 (by decide) ?_
            refine pm_iushr dJ6_numberOfTrailingZeros_0f7a4_72 ?_
            refine pm_istore_n (lv2 := [(0, _), (1, _)]) dJ6_numberOfTrailingZeros_0f7a4_73 rfl (Nat.le_of_ble_eq_true rfl) rfl ?_
            refine pm_iload_n dJ6_numberOfTrailingZeros_0f7a4_74 rfl rfl ?_
            refine pm_iload_n dJ6_numberOfTrailingZeros_0f7a4_75 rfl rfl ?_
            refine pm_iconst (v := 1) dJ6_numberOfTrailingZeros_0f7a4_76 (by decide) ?_
            refine pm_iushr dJ6_numberOfTrailingZeros_0f7a4_77 ?_
            refine pm_iadd dJ6_numberOfTrailingZeros_0f7a4_78 ?_
            refine pm_iret dJ6_numberOfTrailingZeros_0f7a4_79 rfl rfl rfl ?_
            refine th_r ?_ hQ
            rw [← rb_nto t ht, rb_nt]
            first | rw [if_pos c_9] | rw [if_neg c_9]
            rw [rb_n1]
            first | rw [if_pos c_23] | rw [if_neg c_23]
            rw [rb_n2]
            first | rw [if_pos c_38] | rw [if_neg c_38]
            rw [rb_n3]
            first | rw [if_pos c_52] | rw [if_neg c_52]
            rw [rb_n4]
            first | rw [if_pos c_64] | rw [if_neg c_64]
            rfl
        · refine pm_iinc (lv2 := [(1, _), (0, _)]) dJ6_numberOfTrailingZeros_0f7a4_55 rfl rfl (Nat.le_of_ble_eq_true rfl) rfl ?_
          refine pm_iload_n dJ6_numberOfTrailingZeros_0f7a4_58 rfl rfl ?_
          refine pm_iconst (v := 4) dJ6_numberOfTrailingZeros_0f7a4_59 (by decide) ?_
          refine pm_iushr dJ6_numberOfTrailingZeros_0f7a4_60 ?_
          refine pm_istore_n (lv2 := [(0, _), (1, _)]) dJ6_numberOfTrailingZeros_0f7a4_61 rfl (Nat.le_of_ble_eq_true rfl) rfl ?_
          refine pm_iload_n dJ6_numberOfTrailingZeros_0f7a4_62 rfl rfl ?_
          refine pm_iconst (v := 4) dJ6_numberOfTrailingZeros_0f7a4_63 (by decide) ?_
          refine pm_icmp_le (tgt := 74) dJ6_numberOfTrailingZeros_0f7a4_64 (by decide) (fun c_64 => ?_) (fun c_64 => ?_)
          · refine pm_iload_n dJ6_numberOfTrailingZeros_0f7a4_74 rfl rfl ?_
            refine pm_iload_n dJ6_numberOfTrailingZeros_0f7a4_75 rfl rfl ?_
            refine pm_iconst (v := 1) dJ6_numberOfTrailingZeros_0f7a4_76 (by decide) ?_
            refine pm_iushr dJ6_numberOfTrailingZeros_0f7a4_77 ?_
            refine pm_iadd dJ6_numberOfTrailingZeros_0f7a4_78 ?_
            refine pm_iret dJ6_numberOfTrailingZeros_0f7a4_79 rfl rfl rfl ?_
            refine th_r ?_ hQ
            rw [← rb_nto t ht, rb_nt]
            first | rw [if_pos c_9] | rw [if_neg c_9]
            rw [rb_n1]
            first | rw [if_pos c_23] | rw [if_neg c_23]
            rw [rb_n2]
            first | rw [if_pos c_38] | rw [if_neg c_38]
            rw [rb_n3]
            first | rw [if_pos c_52] | rw [if_neg c_52]
            rw [rb_n4]
            first | rw [if_pos c_64] | rw [if_neg c_64]
            rfl
          · refine pm_iinc (lv2 := [(1, _), (0, _)]) dJ6_numberOfTrailingZeros_0f7a4_67 rfl rfl (Nat.le_of_ble_eq_true rfl) rfl ?_
            refine pm_iload_n dJ6_numberOfTrailingZeros_0f7a4_70 rfl rfl ?_
            refine pm_iconst (v := 2) dJ6_numberOfTrailingZeros_0f7a4_71 (by decide) ?_
            refine pm_iushr dJ6_numberOfTrailingZeros_0f7a4_72 ?_
            refine pm_istore_n (lv2 := [(0, _), (1, _)]) dJ6_numberOfTrailingZeros_0f7a4_73 rfl (Nat.le_of_ble_eq_true rfl) rfl ?_
            refine pm_iload_n dJ6_numberOfTrailingZeros_0f7a4_74 rfl rfl ?_
            refine pm_iload_n dJ6_numberOfTrailingZeros_0f7a4_75 rfl rfl ?_
            refine pm_iconst (v := 1) dJ6_numberOfTrailingZeros_0f7a4_76 (by decide) ?_
            refine pm_iushr dJ6_numberOfTrailingZeros_0f7a4_77 ?_
            refine pm_iadd dJ6_numberOfTrailingZeros_0f7a4_78 ?_
            refine pm_iret dJ6_numberOfTrailingZeros_0f7a4_79 rfl rfl rfl ?_
            refine th_r ?_ hQ
            rw [← rb_nto t ht, rb_nt]
            first | rw [if_pos c_9] | rw [if_neg c_9]
            rw [rb_n1]
            first | rw [if_pos c_23] | rw [if_neg c_23]
            rw [rb_n2]
            first | rw [if_pos c_38] | rw [if_neg c_38]
            rw [rb_n3]
            first | rw [if_pos c_52] | rw [if_neg c_52]
            rw [rb_n4]
            first | rw [if_pos c_64] | rw [if_neg c_64]
            rfl
    · refine pm_iinc (lv2 := [(1, _), (0, _)]) dJ6_numberOfTrailingZeros_0f7a4_26 rfl rfl (Nat.le_of_ble_eq_true rfl) rfl ?_
      refine pm_iload_n dJ6_numberOfTrailingZeros_0f7a4_29 rfl rfl ?_
      refine pm_bipush (v := 16) dJ6_numberOfTrailingZeros_0f7a4_30 (by decide) ?_
      refine pm_iushr dJ6_numberOfTrailingZeros_0f7a4_32 ?_
      refine pm_istore_n (lv2 := [(0, _), (1, _)]) dJ6_numberOfTrailingZeros_0f7a4_33 rfl (Nat.le_of_ble_eq_true rfl) rfl ?_
      refine pm_iload_n dJ6_numberOfTrailingZeros_0f7a4_34 rfl rfl ?_
      refine pm_sipush (v := 256) dJ6_numberOfTrailingZeros_0f7a4_35 (by decide) ?_
      refine pm_icmp_le (tgt := 49) dJ6_numberOfTrailingZeros_0f7a4_38 (by decide) (fun c_38 => ?_) (fun c_38 => ?_)
      · refine pm_iload_n dJ6_numberOfTrailingZeros_0f7a4_49 rfl rfl ?_
        refine pm_bipush (v := 16) dJ6_numberOfTrailingZeros_0f7a4_50 (by decide) ?_
        refine pm_icmp_le (tgt := 62) dJ6_numberOfTrailingZeros_0f7a4_52 (by decide) (fun c_52 => ?_) (fun c_52 => ?_)
        · refine pm_iload_n dJ6_numberOfTrailingZeros_0f7a4_62 rfl rfl ?_
          refine pm_iconst (v := 4) dJ6_numberOfTrailingZeros_0f7a4_63 (by decide) ?_
          refine pm_icmp_le (tgt := 74) dJ6_numberOfTrailingZeros_0f7a4_64 (by decide) (fun c_64 => ?_) (fun c_64 => ?_)
          · refine pm_iload_n dJ6_numberOfTrailingZeros_0f7a4_74 rfl rfl ?_
            refine pm_iload_n dJ6_numberOfTrailingZeros_0f7a4_75 rfl rfl ?_
            refine pm_iconst (v := 1) dJ6_numberOfTrailingZeros_0f7a4_76 (by decide) ?_
            refine pm_iushr dJ6_numberOfTrailingZeros_0f7a4_77 ?_
            refine pm_iadd dJ6_numberOfTrailingZeros_0f7a4_78 ?_
            refine pm_iret dJ6_numberOfTrailingZeros_0f7a4_79 rfl rfl rfl ?_
            refine th_r ?_ hQ
            rw [← rb_nto t ht, rb_nt]
            first | rw [if_pos c_9] | rw [if_neg c_9]
            rw [rb_n1]
            first | rw [if_pos c_23] | rw [if_neg c_23]
            rw [rb_n2]
            first | rw [if_pos c_38] | rw [if_neg c_38]
            rw [rb_n3]
            first | rw [if_pos c_52] | rw [if_neg c_52]
            rw [rb_n4]
            first | rw [if_pos c_64] | rw [if_neg c_64]
            rfl
          · refine pm_iinc (lv2 := [(1, _), (0, _)]) dJ6_numberOfTrailingZeros_0f7a4_67 rfl rfl (Nat.le_of_ble_eq_true rfl) rfl ?_
            refine pm_iload_n dJ6_numberOfTrailingZeros_0f7a4_70 rfl rfl ?_
            refine pm_iconst (v := 2) dJ6_numberOfTrailingZeros_0f7a4_71 (by decide) ?_
            refine pm_iushr dJ6_numberOfTrailingZeros_0f7a4_72 ?_
            refine pm_istore_n (lv2 := [(0, _), (1, _)]) dJ6_numberOfTrailingZeros_0f7a4_73 rfl (Nat.le_of_ble_eq_true rfl) rfl ?_
            refine pm_iload_n dJ6_numberOfTrailingZeros_0f7a4_74 rfl rfl ?_
            refine pm_iload_n dJ6_numberOfTrailingZeros_0f7a4_75 rfl rfl ?_
            refine pm_iconst (v := 1) dJ6_numberOfTrailingZeros_0f7a4_76 (by decide) ?_
            refine pm_iushr dJ6_numberOfTrailingZeros_0f7a4_77 ?_
            refine pm_iadd dJ6_numberOfTrailingZeros_0f7a4_78 ?_
            refine pm_iret dJ6_numberOfTrailingZeros_0f7a4_79 rfl rfl rfl ?_
            refine th_r ?_ hQ
            rw [← rb_nto t ht, rb_nt]
            first | rw [if_pos c_9] | rw [if_neg c_9]
            rw [rb_n1]
            first | rw [if_pos c_23] | rw [if_neg c_23]
            rw [rb_n2]
            first | rw [if_pos c_38] | rw [if_neg c_38]
            rw [rb_n3]
            first | rw [if_pos c_52] | rw [if_neg c_52]
            rw [rb_n4]
            first | rw [if_pos c_64] | rw [if_neg c_64]
            rfl
        · refine pm_iinc (lv2 := [(1, _), (0, _)]) dJ6_numberOfTrailingZeros_0f7a4_55 rfl rfl (Nat.le_of_ble_eq_true rfl) rfl ?_
          refine pm_iload_n dJ6_numberOfTrailingZeros_0f7a4_58 rfl rfl ?_
          refine pm_iconst (v := 4) dJ6_numberOfTrailingZeros_0f7a4_59 (by decide) ?_
          refine pm_iushr dJ6_numberOfTrailingZeros_0f7a4_60 ?_
          refine pm_istore_n (lv2 := [(0, _), (1, _)]) dJ6_numberOfTrailingZeros_0f7a4_61 rfl (Nat.le_of_ble_eq_true rfl) rfl ?_
          refine pm_iload_n dJ6_numberOfTrailingZeros_0f7a4_62 rfl rfl ?_
          refine pm_iconst (v := 4) dJ6_numberOfTrailingZeros_0f7a4_63 (by decide) ?_
          refine pm_icmp_le (tgt := 74) dJ6_numberOfTrailingZeros_0f7a4_64 (by decide) (fun c_64 => ?_) (fun c_64 => ?_)
          · refine pm_iload_n dJ6_numberOfTrailingZeros_0f7a4_74 rfl rfl ?_
            refine pm_iload_n dJ6_numberOfTrailingZeros_0f7a4_75 rfl rfl ?_
            refine pm_iconst (v := 1) dJ6_numberOfTrailingZeros_0f7a4_76 (by decide) ?_
            refine pm_iushr dJ6_numberOfTrailingZeros_0f7a4_77 ?_
            refine pm_iadd dJ6_numberOfTrailingZeros_0f7a4_78 ?_
            refine pm_iret dJ6_numberOfTrailingZeros_0f7a4_79 rfl rfl rfl ?_
            refine th_r ?_ hQ
            rw [← rb_nto t ht, rb_nt]
            first | rw [if_pos c_9] | rw [if_neg c_9]
            rw [rb_n1]
            first | rw [if_pos c_23] | rw [if_neg c_23]
            rw [rb_n2]
            first | rw [if_pos c_38] | rw [if_neg c_38]
            rw [rb_n3]
            first | rw [if_pos c_52] | rw [if_neg c_52]
            rw [rb_n4]
            first | rw [if_pos c_64] | rw [if_neg c_64]
            rfl
          · refine pm_iinc (lv2 := [(1, _), (0, _)]) dJ6_numberOfTrailingZeros_0f7a4_67 rfl rfl (Nat.le_of_ble_eq_true rfl) rfl ?_
            refine pm_iload_n dJ6_numberOfTrailingZeros_0f7a4_70 rfl rfl ?_
            refine pm_iconst (v := 2) dJ6_numberOfTrailingZeros_0f7a4_71 (by decide) ?_
            refine pm_iushr dJ6_numberOfTrailingZeros_0f7a4_72 ?_
            refine pm_istore_n (lv2 := [(0, _), (1, _)]) dJ6_numberOfTrailingZeros_0f7a4_73 rfl (Nat.le_of_ble_eq_true rfl) rfl ?_
            refine pm_iload_n dJ6_numberOfTrailingZeros_0f7a4_74 rfl rfl ?_
            refine pm_iload_n dJ6_numberOfTrailingZeros_0f7a4_75 rfl rfl ?_
            refine pm_iconst (v := 1) dJ6_numberOfTrailingZeros_0f7a4_76 (by decide) ?_
            refine pm_iushr dJ6_numberOfTrailingZeros_0f7a4_77 ?_
            refine pm_iadd dJ6_numberOfTrailingZeros_0f7a4_78 ?_
            refine pm_iret dJ6_numberOfTrailingZeros_0f7a4_79 rfl rfl rfl ?_
            refine th_r ?_ hQ
            rw [← rb_nto t ht, rb_nt]
            first | rw [if_pos c_9] | rw [if_neg c_9]
            rw [rb_n1]
            first | rw [if_pos c_23] | rw [if_neg c_23]
            rw [rb_n2]
            first | rw [if_pos c_38] | rw [if_neg c_38]
            rw [rb_n3]
            first | rw [if_pos c_52] | rw [if_neg c_52]
            rw [rb_n4]
            first | rw [if_pos c_64] | rw [if_neg c_64]
            rfl
      · refine pm_iinc (lv2 := [(1, _), (0, _)]) dJ6_numberOfTrailingZeros_0f7a4_41 rfl rfl (Nat.le_of_ble_eq_true rfl) rfl ?_
        refine pm_iload_n dJ6_numberOfTrailingZeros_0f7a4_44 rfl rfl ?_
        refine pm_bipush (v := 8) dJ6_numberOfTrailingZeros_0f7a4_45 (by decide) ?_
        refine pm_iushr dJ6_numberOfTrailingZeros_0f7a4_47 ?_
        refine pm_istore_n (lv2 := [(0, _), (1, _)]) dJ6_numberOfTrailingZeros_0f7a4_48 rfl (Nat.le_of_ble_eq_true rfl) rfl ?_
        refine pm_iload_n dJ6_numberOfTrailingZeros_0f7a4_49 rfl rfl ?_
        refine pm_bipush (v := 16) dJ6_numberOfTrailingZeros_0f7a4_50 (by decide) ?_
        refine pm_icmp_le (tgt := 62) dJ6_numberOfTrailingZeros_0f7a4_52 (by decide) (fun c_52 => ?_) (fun c_52 => ?_)
        · refine pm_iload_n dJ6_numberOfTrailingZeros_0f7a4_62 rfl rfl ?_
          refine pm_iconst (v := 4) dJ6_numberOfTrailingZeros_0f7a4_63 (by decide) ?_
          refine pm_icmp_le (tgt := 74) dJ6_numberOfTrailingZeros_0f7a4_64 (by decide) (fun c_64 => ?_) (fun c_64 => ?_)
          · refine pm_iload_n dJ6_numberOfTrailingZeros_0f7a4_74 rfl rfl ?_
            refine pm_iload_n dJ6_numberOfTrailingZeros_0f7a4_75 rfl rfl ?_
            refine pm_iconst (v := 1) dJ6_numberOfTrailingZeros_0f7a4_76 (by decide) ?_
            refine pm_iushr dJ6_numberOfTrailingZeros_0f7a4_77 ?_
            refine pm_iadd dJ6_numberOfTrailingZeros_0f7a4_78 ?_
            refine pm_iret dJ6_numberOfTrailingZeros_0f7a4_79 rfl rfl rfl ?_
            refine th_r ?_ hQ
            rw [← rb_nto t ht, rb_nt]
            first | rw [if_pos c_9] | rw [if_neg c_9]
            rw [rb_n1]
            first | rw [if_pos c_23] | rw [if_neg c_23]
            rw [rb_n2]
            first | rw [if_pos c_38] | rw [if_neg c_38]
            rw [rb_n3]
            first | rw [if_pos c_52] | rw [if_neg c_52]
            rw [rb_n4]
            first | rw [if_pos c_64] | rw [if_neg c_64]
            rfl
          · refine pm_iinc (lv2 := [(1, _), (0, _)]) dJ6_numberOfTrailingZeros_0f7a4_67 rfl rfl (Nat.le_of_ble_eq_true rfl) rfl ?_
            refine pm_iload_n dJ6_numberOfTrailingZeros_0f7a4_70 rfl rfl ?_
            refine pm_iconst (v := 2) dJ6_numberOfTrailingZeros_0f7a4_71 (by decide) ?_
            refine pm_iushr dJ6_numberOfTrailingZeros_0f7a4_72 ?_
            refine pm_istore_n (lv2 := [(0, _), (1, _)]) dJ6_numberOfTrailingZeros_0f7a4_73 rfl (Nat.le_of_ble_eq_true rfl) rfl ?_
            refine pm_iload_n dJ6_numberOfTrailingZeros_0f7a4_74 rfl rfl ?_
            refine pm_iload_n dJ6_numberOfTrailingZeros_0f7a4_75 rfl rfl ?_
            refine pm_iconst (v := 1) dJ6_numberOfTrailingZeros_0f7a4_76 (by decide) ?_
            refine pm_iushr dJ6_numberOfTrailingZeros_0f7a4_77 ?_
            refine pm_iadd dJ6_numberOfTrailingZeros_0f7a4_78 ?_
            refine pm_iret dJ6_numberOfTrailingZeros_0f7a4_79 rfl rfl rfl ?_
            refine th_r ?_ hQ
            rw [← rb_nto t ht, rb_nt]
            first | rw [if_pos c_9] | rw [if_neg c_9]
            rw [rb_n1]
            first | rw [if_pos c_23] | rw [if_neg c_23]
            rw [rb_n2]
            first | rw [if_pos c_38] | rw [if_neg c_38]
            rw [rb_n3]
            first | rw [if_pos c_52] | rw [if_neg c_52]
            rw [rb_n4]
            first | rw [if_pos c_64] | rw [if_neg c_64]
            rfl
        · refine pm_iinc (lv2 := [(1, _), (0, _)]) dJ6_numberOfTrailingZeros_0f7a4_55 rfl rfl (Nat.le_of_ble_eq_true rfl) rfl ?_
          refine pm_iload_n dJ6_numberOfTrailingZeros_0f7a4_58 rfl rfl ?_
          refine pm_iconst (v := 4) dJ6_numberOfTrailingZeros_0f7a4_59 (by decide) ?_
          refine pm_iushr dJ6_numberOfTrailingZeros_0f7a4_60 ?_
          refine pm_istore_n (lv2 := [(0, _), (1, _)]) dJ6_numberOfTrailingZeros_0f7a4_61 rfl (Nat.le_of_ble_eq_true rfl) rfl ?_
          refine pm_iload_n dJ6_numberOfTrailingZeros_0f7a4_62 rfl rfl ?_
          refine pm_iconst (v := 4) dJ6_numberOfTrailingZeros_0f7a4_63 (by decide) ?_
          refine pm_icmp_le (tgt := 74) dJ6_numberOfTrailingZeros_0f7a4_64 (by decide) (fun c_64 => ?_) (fun c_64 => ?_)
          · refine pm_iload_n dJ6_numberOfTrailingZeros_0f7a4_74 rfl rfl ?_
            refine pm_iload_n dJ6_numberOfTrailingZeros_0f7a4_75 rfl rfl ?_
            refine pm_iconst (v := 1) dJ6_numberOfTrailingZeros_0f7a4_76 (by decide) ?_
            refine pm_iushr dJ6_numberOfTrailingZeros_0f7a4_77 ?_
            refine pm_iadd dJ6_numberOfTrailingZeros_0f7a4_78 ?_
            refine pm_iret dJ6_numberOfTrailingZeros_0f7a4_79 rfl rfl rfl ?_
            refine th_r ?_ hQ
            rw [← rb_nto t ht, rb_nt]
            first | rw [if_pos c_9] | rw [if_neg c_9]
            rw [rb_n1]
            first | rw [if_pos c_23] | rw [if_neg c_23]
            rw [rb_n2]
            first | rw [if_pos c_38] | rw [if_neg c_38]
            rw [rb_n3]
            first | rw [if_pos c_52] | rw [if_neg c_52]
            rw [rb_n4]
            first | rw [if_pos c_64] | rw [if_neg c_64]
            rfl
          · refine pm_iinc (lv2 := [(1, _), (0, _)]) dJ6_numberOfTrailingZeros_0f7a4_67 rfl rfl (Nat.le_of_ble_eq_true rfl) rfl ?_
            refine pm_iload_n dJ6_numberOfTrailingZeros_0f7a4_70 rfl rfl ?_
            refine pm_iconst (v := 2) dJ6_numberOfTrailingZeros_0f7a4_71 (by decide) ?_
            refine pm_iushr dJ6_numberOfTrailingZeros_0f7a4_72 ?_
            refine pm_istore_n (lv2 := [(0, _), (1, _)]) dJ6_numberOfTrailingZeros_0f7a4_73 rfl (Nat.le_of_ble_eq_true rfl) rfl ?_
            refine pm_iload_n dJ6_numberOfTrailingZeros_0f7a4_74 rfl rfl ?_
            refine pm_iload_n dJ6_numberOfTrailingZeros_0f7a4_75 rfl rfl ?_
            refine pm_iconst (v := 1) dJ6_numberOfTrailingZeros_0f7a4_76 (by decide) ?_
            refine pm_iushr dJ6_numberOfTrailingZeros_0f7a4_77 ?_
            refine pm_iadd dJ6_numberOfTrailingZeros_0f7a4_78 ?_
            refine pm_iret dJ6_numberOfTrailingZeros_0f7a4_79 rfl rfl rfl ?_
            refine th_r ?_ hQ
            rw [← rb_nto t ht, rb_nt]
            first | rw [if_pos c_9] | rw [if_neg c_9]
            rw [rb_n1]
            first | rw [if_pos c_23] | rw [if_neg c_23]
            rw [rb_n2]
            first | rw [if_pos c_38] | rw [if_neg c_38]
            rw [rb_n3]
            first | rw [if_pos c_52] | rw [if_neg c_52]
            rw [rb_n4]
            first | rw [if_pos c_64] | rw [if_neg c_64]
            rfl
  · refine pm_iload_n dJ6_numberOfTrailingZeros_0f7a4_12 rfl rfl ?_
    refine pm_bipush (v := 32) dJ6_numberOfTrailingZeros_0f7a4_13 (by decide) ?_
    refine pm_iand dJ6_numberOfTrailingZeros_0f7a4_15 ?_
    refine pm_iret dJ6_numberOfTrailingZeros_0f7a4_16 rfl rfl rfl ?_
    refine th_r ?_ hQ
    rw [← rb_nto t ht, rb_nt]
    first | rw [if_pos c_9] | rw [if_neg c_9]

set_option maxHeartbeats 600000 in
set_option maxRecDepth 100000 in
theorem c_ntz {l : Launch} {G : pm_G} {ad : Nat → Nat → Nat} {w : pm_V} {Q : pm_T} {x t : Nat} (hx : x < 2 ^ 32) (ht : t < 32) (h : x.testBit t = true) (hl : ∀ j, j < t → x.testBit j = false) (hQ : Q ad (some (.int (nI t))) w) : pm_C l G m_J6_numberOfTrailingZeros_0f7a4 [.int (nI x)] ad w Q := by
  refine pm_met (by decide) (Nat.le_of_ble_eq_true rfl) ?_
  refine pm_iload_n dJ6_numberOfTrailingZeros_0f7a4_0 rfl rfl ?_
  refine pm_iconst (v := (-1)) dJ6_numberOfTrailingZeros_0f7a4_1 (by decide) ?_
  refine pm_ixor dJ6_numberOfTrailingZeros_0f7a4_2 ?_
  refine pm_iload_n dJ6_numberOfTrailingZeros_0f7a4_3 rfl rfl ?_
  refine pm_iconst (v := 1) dJ6_numberOfTrailingZeros_0f7a4_4 (by decide) ?_
  refine pm_isub dJ6_numberOfTrailingZeros_0f7a4_5 ?_
  refine pm_iand dJ6_numberOfTrailingZeros_0f7a4_6 ?_
  refine pm_istore_n (lv2 := [(0, _)]) dJ6_numberOfTrailingZeros_0f7a4_7 rfl (Nat.le_of_ble_eq_true rfl) rfl ?_
  rw [rb_ntz hx h hl]
  exact f_ntz t ht hQ

theorem rb_z (M : Nat) : nI M = nI (M % 2 ^ 32) := by
  apply Int32.toBitVec_inj.mp
  rw [th_nbv, th_nbv]
  apply BitVec.eq_of_toNat_eq
  rw [BitVec.toNat_ofNat, BitVec.toNat_ofNat, Nat.mod_mod]
theorem rb_z0 {n : Nat} (h : n < 2 ^ 32) (e : nI n = 0) : n = 0 := by
  have := congrArg (fun x : Int32 => x.toBitVec.toNat) e
  rw [pk_tn h] at this
  exact this
theorem rb_lo {M t : Nat} (h : M.testBit t = true) (hl : ∀ j, j < t → M.testBit j = false) (hn : ¬ M % 2 ^ 32 = 0) : t < 32 ∧ (M % 2 ^ 32).testBit t = true ∧ ∀ j, j < t → (M % 2 ^ 32).testBit j = false := by
  have ht : t < 32 := by
    cases Nat.lt_or_ge t 32 with
    | inl h => exact h
    | inr h2 =>
      exfalso
      apply hn
      refine Nat.eq_of_testBit_eq (fun j => ?_)
      rw [Nat.testBit_mod_two_pow, Nat.zero_testBit]
      by_cases e : j < 32
      · simp [e, hl j (by omega)]
      · simp [e]
  refine ⟨ht, by rw [Nat.testBit_mod_two_pow, h]; simp [ht], fun j hj => by rw [Nat.testBit_mod_two_pow, hl j hj]; simp⟩
theorem rb_hi {M t : Nat} (hM : M < 2 ^ 63) (h : M.testBit t = true) (hl : ∀ j, j < t → M.testBit j = false) (hn : M % 2 ^ 32 = 0) : 32 ≤ t ∧ t - 32 < 32 ∧ (M / 2 ^ 32).testBit (t - 32) = true ∧ ∀ j, j < t - 32 → (M / 2 ^ 32).testBit j = false := by
  have ht : 32 ≤ t := by
    cases Nat.lt_or_ge t 32 with
    | inr h => exact h
    | inl h2 =>
      have := congrArg (fun x => Nat.testBit x t) hn
      simp only [Nat.testBit_mod_two_pow, h, Nat.zero_testBit] at this
      simp [h2] at this
  have h63 : t < 63 := by
    cases Nat.lt_or_ge t 63 with
    | inl h => exact h
    | inr h2 => rw [Nat.testBit_lt_two_pow (Nat.lt_of_lt_of_le hM (Nat.pow_le_pow_right (by omega) h2))] at h; exact absurd h (by decide)
  refine ⟨ht, by omega, ?_, fun j hj => ?_⟩
  · rw [Nat.testBit_div_two_pow, Nat.sub_add_cancel ht]; exact h
  · rw [Nat.testBit_div_two_pow]; exact hl _ (by omega)
set_option maxHeartbeats 600000 in
set_option maxRecDepth 100000 in
theorem c_Lntz {l : Launch} {G : pm_G} {ad : Nat → Nat → Nat} {w : pm_V} {Q : pm_T} {M t : Nat} (hM : M < 2 ^ 63) (h : M.testBit t = true) (hl : ∀ j, j < t → M.testBit j = false) (hQ : Q ad (some (.int (nI t))) w) : pm_C l G m_J13_numberOfTrailingZeros_95d88 [.long (lN M)] ad w Q := by
  refine pm_met (by decide) (Nat.le_of_ble_eq_true rfl) ?_
  refine pm_lload_n dJ13_numberOfTrailingZeros_95d88_0 rfl rfl ?_
  refine pm_l2i dJ13_numberOfTrailingZeros_95d88_1 ?_
  rw [lN_i, rb_z M]
  refine pm_istore_n (lv2 := [(2, _), (0, _)]) dJ13_numberOfTrailingZeros_95d88_2 rfl (Nat.le_of_ble_eq_true rfl) rfl ?_
  refine pm_iload_n dJ13_numberOfTrailingZeros_95d88_3 rfl rfl ?_
  refine pm_if_ne (tgt := 21) dJ13_numberOfTrailingZeros_95d88_4 (by decide) (fun c_4 => ?_) (fun c_4 => ?_)
  · obtain ⟨q1, q2, q3⟩ := rb_lo h hl (fun z => c_4 (by rw [z]; rfl))
    refine pm_iload_n dJ13_numberOfTrailingZeros_95d88_21 rfl rfl ?_
    refine pm_callS (M2 := m_J6_numberOfTrailingZeros_0f7a4) (As := [_]) ok_J6_numberOfTrailingZeros_0f7a4 kw_759 kw_760 dJ13_numberOfTrailingZeros_95d88_22 rfl rfl (Nat.le_of_ble_eq_true rfl) ⟨⟨Nat.le_of_ble_eq_true rfl, Nat.le_of_ble_eq_true rfl⟩, Nat.le_of_ble_eq_true rfl, Nat.le_of_ble_eq_true rfl⟩ ?_
    refine c_ntz (Nat.mod_lt _ (by decide)) q1 q2 q3 ?_
    refine pm_iret dJ13_numberOfTrailingZeros_95d88_25 rfl rfl rfl ?_
    exact hQ
  · obtain ⟨q1, q2, q3, q4⟩ := rb_hi hM h hl (rb_z0 (Nat.mod_lt _ (by decide)) c_4)
    refine pm_bipush (v := 32) dJ13_numberOfTrailingZeros_95d88_7 (by decide) ?_
    refine pm_lload_n dJ13_numberOfTrailingZeros_95d88_9 rfl rfl ?_
    refine pm_bipush (v := 32) dJ13_numberOfTrailingZeros_95d88_10 (by decide) ?_
    refine pm_lushr dJ13_numberOfTrailingZeros_95d88_12 ?_
    refine pm_l2i dJ13_numberOfTrailingZeros_95d88_13 ?_
    rw [show ((lN M).toUInt64 >>> ((32 : Int32).toInt64.toUInt64 &&& Int64.toUInt64 63)).toInt64 = lN (M / 2 ^ 32) from rb_sh 32 (by decide) (by omega), lN_i]
    refine pm_callS (M2 := m_J6_numberOfTrailingZeros_0f7a4) (As := [_]) ok_J6_numberOfTrailingZeros_0f7a4 kw_759 kw_760 dJ13_numberOfTrailingZeros_95d88_14 rfl rfl (Nat.le_of_ble_eq_true rfl) ⟨⟨Nat.le_of_ble_eq_true rfl, Nat.le_of_ble_eq_true rfl⟩, Nat.le_of_ble_eq_true rfl, Nat.le_of_ble_eq_true rfl⟩ ?_
    refine c_ntz (by omega) q2 q3 q4 ?_
    refine pm_iadd dJ13_numberOfTrailingZeros_95d88_17 ?_
    rw [show (32 : Int32) + nI (t - 32) = nI t from by rw [show (32 : Int32) = nI 32 from rfl, nI_add]; congr 1; omega]
    refine pm_goto (tgt := 25) dJ13_numberOfTrailingZeros_95d88_18 (by decide) ?_
    refine pm_iret dJ13_numberOfTrailingZeros_95d88_25 rfl rfl rfl ?_
    exact hQ

