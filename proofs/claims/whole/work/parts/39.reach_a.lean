def rs_mp (ad : Nat → Nat → Nat) (S : Nat → Nat) (A : Nat → Nat → Int32) (s : Nat → Int32) (B : Nat → Nat → Int32) (hs : Int64) (gm : Int32) (t g : Nat → Int32) : List pm_A :=
  [.inr (12, [.ref (ad 8 1), .int (nI (S 1)), .int (nI (S 2)), .ref (ad 8 2), .ref (ad 8 3), .ref (ad 8 4), .int (nI (S 6)), .int (s 7), .int (s 8), .int (s 9), .ref (ad 8 5), .int (nI (S 11)), .ref (ad 8 6), .ref (ad 8 7), .ref (ad 8 8), .ref (ad 8 9), .ref (ad 8 10), .ref (ad 8 11), .ref (ad 8 12), .ref (ad 8 13), .ref (ad 8 14), .int (s 21), .int (s 22), .int (s 23), .int (s 24), .int (s 25), .int (nI (S 26)), .ref (ad 8 15), .ref (ad 8 16), .ref (ad 8 17), .int (s 30), .int (s 31), .ref (ad 8 18), .int gm, .int (nI (S 34)), .ref (ad 8 19), .ref (ad 8 20), .ref (ad 8 21), .ref (ad 8 22), .ref (ad 8 23), .int (nI (S 40)), .int (nI (S 41)), .int (nI (S 42)), .long hs]),
   .inl (0, 20, .inl (A 1)),
   .inl (0, 12, .inl (A 2)),
   .inl (0, 3, .inl (A 3)),
   .inl (0, 3, .inl (A 4)),
   .inl (0, 4, .inl (B 5)),
   .inl (0, 8, .inl (A 6)),
   .inl (0, 8, .inl (A 7)),
   .inl (0, 8, .inl (A 8)),
   .inl (0, 8, .inl (A 9)),
   .inl (0, 8, .inl (A 10)),
   .inl (0, 8, .inl (A 11)),
   .inl (0, 8, .inl (A 12)),
   .inl (2, 8, .inl (A 13)),
   .inl (0, 8, .inl (A 14)),
   .inl (0, 10, .inl (A 15)),
   .inl (0, 10, .inl (A 16)),
   .inl (0, 8, .inl t),
   .inl (0, 6, .inl g),
   .inl (0, 8, .inl (A 19)),
   .inl (0, 8, .inl (A 20)),
   .inl (0, 8, .inl (A 21)),
   .inl (0, 32, .inl (A 22)),
   .inl (0, 20, .inl (A 23))]

/-- who takes part: the nut, then the others in their order -/
def rs_g (a z : Nat) : Nat → Nat
  | 0 => a
  | j + 1 => rh_pk z.testBit j 8
def rs_N (z : Nat) : Nat := rh_c z.testBit 8
def rs_w (n : Nat) : Nat := if 62 ≤ n then 62 else n
theorem rs_wle (n : Nat) : rs_w n ≤ 62 := by unfold rs_w; split <;> omega
def rs_c (A : Nat → Nat → Int32) (a z i : Nat) : Nat := rs_w (th_n (A 9 (rs_g a z i)))
def rs_m (S : Nat → Nat) (A : Nat → Nat → Int32) (i j x y : Nat) : Nat := rs_w (th_n (th_meet A (S 6) (th_n (A 7 i)) (th_n (A 7 j)) (nI x) (nI y)))
def rs_q (S : Nat → Nat) (A : Nat → Nat → Int32) (a z w l x y : Nat) : Nat := rs_m S A (rs_g a z w) (rs_g a z l) x y
def rs_fo (f : Nat → Nat) : Nat → Nat
  | 0 => 0
  | n + 1 => rs_fo f n ||| 2 ^ f n
theorem rs_fot (f : Nat → Nat) (v : Nat) : ∀ n, (rs_fo f n).testBit v = true ↔ ∃ k, k < n ∧ f k = v := by
  intro n
  induction n with
  | zero => exact ⟨fun h => absurd h (by simp [rs_fo]), fun ⟨k, h, _⟩ => absurd h (Nat.not_lt_zero k)⟩
  | succ n ih =>
    show (rs_fo f n ||| 2 ^ f n).testBit v = true ↔ _
    rw [rh_orb, Bool.or_eq_true, ih, decide_eq_true_iff]
    constructor
    · rintro (⟨k, h, e⟩ | e)
      · exact ⟨k, by omega, e⟩
      · exact ⟨n, by omega, e⟩
    · rintro ⟨k, h, e⟩
      by_cases hk : k = n
      · subst hk; exact Or.inr e
      · exact Or.inl ⟨k, by omega, e⟩
def rs_one (S : Nat → Nat) (A : Nat → Nat → Int32) (a z k : Nat) : Nat := rh_rr (rs_N z) (rs_q S A a z) (rs_N z) k 0 (rs_c A a z)
def rs_all (S : Nat → Nat) (A : Nat → Nat → Int32) (a z : Nat) : Nat := rs_fo (rs_one S A a z) (rh_W (rs_N z))
abbrev rs_ok (S : Nat → Nat) (a : Nat) (z : Int32) : Prop := th_ok z (2 ^ S 11) ∧ (th_n z).testBit a = false ∧ th_bits (th_n z) 10 ≤ 5

def rs_A (S : Nat → Nat) (A : Nat → Nat → Int32) (x z : Int32) : Int64 := if th_ok x (S 11) then (if rs_ok S (th_n x) z then lN (rs_all S A (th_n x) (th_n z)) else -102) else -101
theorem rs_Tb {S : Nat → Nat} {A : Nat → Nat → Int32} {a z i s v : Nat} (hi : i ≤ rs_N z) (h : rh_T (rs_N z) (rs_c A a z) (rs_q S A a z) i s v) : v ≤ 62 := rh_Tbd (fun _ _ => rs_wle _) (fun _ _ _ _ _ _ _ _ => rs_wle _) hi h
theorem rs_rrb {S : Nat → Nat} {A : Nat → Nat → Int32} {a z k : Nat} (hk : k < rh_W (rs_N z)) : rs_one S A a z k ≤ 62 := rs_Tb (Nat.zero_le _) (rh_main.mp ⟨k, hk, rfl⟩)
theorem rs_at (S : Nat → Nat) (A : Nat → Nat → Int32) (a z v : Nat) : (rs_all S A a z).testBit v = true ↔ rh_T (rs_N z) (rs_c A a z) (rs_q S A a z) 0 (2 ^ rs_N z - 1) v := by
  unfold rs_all
  rw [rs_fot]
  exact rh_main
theorem rs_tb (P i : Nat) : P.testBit i = decide (P / 2 ^ i % 2 = 1) := Nat.testBit_eq_decide_div_mod_eq
theorem rs_b1 {P i : Nat} (h : ¬ nI (P / 2 ^ i % 2) = 0) : P.testBit i = true := by
  rw [rs_tb]
  refine decide_eq_true ?_
  have h2 : P / 2 ^ i % 2 = 0 ∨ P / 2 ^ i % 2 = 1 := by omega
  exact h2.elim (fun e => absurd (by rw [e]; rfl) h) id
theorem rs_b0 {P i : Nat} (h : nI (P / 2 ^ i % 2) = 0) : P.testBit i = false := by
  rw [rs_tb]
  refine decide_eq_false ?_
  intro e
  rw [e] at h
  exact absurd h (by decide)
theorem rs_bn1 {P i : Nat} (h : ¬ nI (P / 2 ^ i % 2) = 1) : P.testBit i = false := by
  rw [rs_tb]
  refine decide_eq_false ?_
  intro e
  rw [e] at h
  exact absurd rfl h
theorem rs_be1 {P i : Nat} (h : nI (P / 2 ^ i % 2) = 1) : P.testBit i = true := by
  refine rs_b1 (fun e => ?_)
  rw [h] at e
  exact absurd e (by decide)
theorem rs_ior (a b : Nat) : nI a ||| nI b = nI (a ||| b) := by
  apply Int32.toBitVec_inj.mp
  rw [Int32.toBitVec_or, th_nbv, th_nbv, th_nbv]
  apply BitVec.eq_of_toNat_eq
  rw [BitVec.toNat_or, BitVec.toNat_ofNat, BitVec.toNat_ofNat, BitVec.toNat_ofNat, Nat.or_mod_two_pow]
theorem rs_bc (z : Nat) : ∀ n, th_bits z n = rh_c z.testBit n := by
  intro n
  induction n with
  | zero => rfl
  | succ n ih =>
    show th_bits z n + z / 2 ^ n % 2 = rh_c z.testBit n + (if z.testBit n = true then 1 else 0)
    rw [ih, rs_tb]
    have h2 : z / 2 ^ n % 2 = 0 ∨ z / 2 ^ n % 2 = 1 := by omega
    rcases h2 with h | h <;> rw [h] <;> simp
theorem rs_hi {z n j : Nat} (hz : z < 2 ^ n) (hj : n ≤ j) : z.testBit j = false := Nat.testBit_lt_two_pow (Nat.lt_of_lt_of_le hz (Nat.pow_le_pow_right (by decide) hj))
theorem rs_cn {z n : Nat} (hz : z < 2 ^ n) (d : Nat) : rh_c z.testBit (n + d) = rh_c z.testBit n := by
  rw [rb_csh, rh_cz d (fun j _ => rs_hi hz (by omega)), Nat.add_zero]
theorem rs_Nn {z n : Nat} (hz : z < 2 ^ n) (hn : n ≤ 8) : rs_N z = rh_c z.testBit n ∧ th_bits z 10 = rs_N z := by
  have h1 := rs_cn hz (8 - n)
  rw [show n + (8 - n) = 8 from by omega] at h1
  have h2 := rs_cn hz (10 - n)
  rw [show n + (10 - n) = 10 from by omega] at h2
  exact ⟨h1, by rw [rs_bc, h2, ← h1]; rfl⟩
theorem rs_gb {S : Nat → Nat} {a z j : Nat} (ha : a < S 11) (hz : z < 2 ^ S 11) (hj : j ≤ rs_N z) : rs_g a z j < S 11 := by
  cases j with
  | zero => exact ha
  | succ j =>
    have h := rh_pkx (f := z.testBit) (k := j) (n := 8) hj
    show rh_pk z.testBit j 8 < S 11
    cases Nat.lt_or_ge (rh_pk z.testBit j 8) (S 11) with
    | inl h2 => exact h2
    | inr h2 => rw [rs_hi hz h2] at h; exact absurd h.2.1 (by decide)
theorem rs_W5 : ∀ n, n < 6 → rh_W n ≤ 14400 := by decide
theorem rs_wm {S : Nat → Nat} {A : Nat → Nat → Int32} (hI : th_I S A) {i j x y : Nat} (hi : i < S 11) (hj : j < S 11) (hx : x ≤ 62) (hy : y ≤ 62) : ∃ si sj c : Nat, si < S 2 ∧ sj < S 2 ∧ A 7 i = nI si ∧ A 7 j = nI sj ∧ c ≤ 999 ∧ th_meet A (S 6) si sj (nI x) (nI y) = nI c ∧ rs_w c = rs_m S A i j x y := by
  obtain ⟨-, ⟨si, hsi, esi⟩, -⟩ := th_nk hI hi
  obtain ⟨-, ⟨sj, hsj, esj⟩, -⟩ := th_nk hI hj
  have h2 : S 2 ≤ 3 := hI.2.1.1
  obtain ⟨c, hc, ec⟩ := th_meet_bd (how := S 6) hI.2.1 hsi hsj (show x ≤ 999 by omega) (show y ≤ 999 by omega)
  refine ⟨si, sj, c, hsi, hsj, esi, esj, hc, ec, ?_⟩
  unfold rs_m
  rw [esi, esj, th_n_nI (by omega), th_n_nI (by omega), ec, th_n_nI (by omega)]
theorem rs_wI {n : Nat} (hn : n < 2 ^ 31) : (if (62 : Int32) ≤ nI n then 62 else nI n) = nI (rs_w n) := by
  unfold rs_w
  by_cases h : 62 ≤ n
  · rw [if_pos h, if_pos (show (62 : Int32) ≤ nI n from (nI_leI (a := 62) (by decide) hn).mpr h)]
    rfl
  · rw [if_neg h, if_neg (show ¬ (62 : Int32) ≤ nI n from fun z => h ((nI_leI (a := 62) (by decide) hn).mp z))]
theorem c_X12_narrowN {l : Launch} {G : pm_G} {ad : Nat → Nat → Nat} {w : pm_V} {Q : pm_T} {n : Nat} (hn : n < 2 ^ 31) (hQ : Q ad (some (.int (nI (rs_w n)))) w) : pm_C l G m_X12_narrow [.int (nI n)] ad w Q := c_X12_narrow (th_r (rs_wI hn).symm hQ)
set_option maxHeartbeats 600000 in
set_option maxRecDepth 100000 in
theorem b_X12_whole {l : Launch} {G : pm_G} {ad : Nat → Nat → Nat} {a0 a3 a4 a5 a6 a7 : List pm_A} {a1 a2 : Nat → Option pm_A} {S : Nat → Nat} {A : Nat → Nat → Int32} {s : Nat → Int32} {B : Nat → Nat → Int32} {hs : Int64} {Q : pm_T} {N P k b j : Nat} {t g : Nat → Int32} (hN : N ≤ 5) (hP : P < 2 ^ 31) (hj : j < N + 1) (hb : b < 2 ^ 31) (hf : rh_f P b j = true) (hk : rh_c (rh_f P b) j = k) (hQ : Q ad (some (.int (nI j))) (a0, a1, a2, a3, a4, a5, a6, a7, rs_mp ad S A s B hs (nI (N + 1)) t g)) {i : Nat} (hi : i ≤ j) (K : i < j → pm_W l G m_X12_whole ad 6 [(5, .int (nI (i + 1))), (4, .int (nI (k - rh_c (rh_f P b) (i + 1)))), (0, .ref (ad 8 0)), (1, .int (nI P)), (2, .int (nI k)), (3, .int (nI b))] [] (a0, a1, a2, a3, a4, a5, a6, a7, rs_mp ad S A s B hs (nI (N + 1)) t g) 0 0 Q) : pm_W l G m_X12_whole ad 6 [(5, .int (nI i)), (4, .int (nI (k - rh_c (rh_f P b) i))), (0, .ref (ad 8 0)), (1, .int (nI P)), (2, .int (nI k)), (3, .int (nI b))] [] (a0, a1, a2, a3, a4, a5, a6, a7, rs_mp ad S A s B hs (nI (N + 1)) t g) 0 0 Q := by
  refine pm_iload dX12_whole_6 rfl ?_
  refine pm_aload_n dX12_whole_8 rfl rfl ?_
  refine pm_get fl_RX12_218_12 dX12_whole_9 rfl rfl ?_
  refine pm_icmp_ge (tgt := 47) dX12_whole_12 (by decide) (fun c_12 => absurd c_12 (by rw [nI_leI (by omega) (by omega)]; omega)) (fun c_12 => ?_)
  refine pm_iload_n dX12_whole_15 rfl rfl ?_
  refine pm_iload dX12_whole_16 rfl ?_
  refine pm_ishr dX12_whole_18 ?_
  refine pm_iconst (v := 1) dX12_whole_19 (by decide) ?_
  refine pm_iand dX12_whole_20 ?_
  rw [th_bit hP (by omega)]
  refine pm_if_ne (tgt := 41) dX12_whole_21 (by decide) (fun c_21 => ?_) (fun c_21 => ?_)
  · refine pm_iinc (lv2 := [(5, _), (4, _), (0, _), (1, _), (2, _), (3, _)]) dX12_whole_41 rfl (nI_1 i) (Nat.le_of_ble_eq_true rfl) rfl ?_
    refine pm_goto (tgt := 6) dX12_whole_44 (by decide) ?_
    refine pm_pick [0, 1, 2, 3, 4, 5] rfl ?_
    have hf0 : rh_f P b i = false := by
      unfold rh_f
      rw [rs_b1 c_21]
      rfl
    have hij : i < j := by
      cases Nat.lt_or_ge i j with
      | inl h => exact h
      | inr h =>
        have e : i = j := by omega
        subst e
        rw [hf0] at hf
        exact absurd hf (by decide)
    have he : rh_c (rh_f P b) (i + 1) = rh_c (rh_f P b) i := by
      show rh_c (rh_f P b) i + (if rh_f P b i = true then 1 else 0) = _
      rw [hf0]
      rfl
    have kk := K hij
    rw [he] at kk
    exact kk
  · refine pm_iload dX12_whole_24 rfl ?_
    refine pm_iload_n dX12_whole_26 rfl rfl ?_
    refine pm_icmp_eq (tgt := 41) dX12_whole_27 (by decide) (fun c_27 => ?_) (fun c_27 => ?_)
    · refine pm_iinc (lv2 := [(5, _), (4, _), (0, _), (1, _), (2, _), (3, _)]) dX12_whole_41 rfl (nI_1 i) (Nat.le_of_ble_eq_true rfl) rfl ?_
      refine pm_goto (tgt := 6) dX12_whole_44 (by decide) ?_
      refine pm_pick [0, 1, 2, 3, 4, 5] rfl ?_
      have hf0 : rh_f P b i = false := by
        unfold rh_f
        rw [decide_eq_true ((nI_eq (by omega) hb).mp c_27)]
        simp
      have hij : i < j := by
        cases Nat.lt_or_ge i j with
        | inl h => exact h
        | inr h =>
          have e : i = j := by omega
          subst e
          rw [hf0] at hf
          exact absurd hf (by decide)
      have he : rh_c (rh_f P b) (i + 1) = rh_c (rh_f P b) i := by
        show rh_c (rh_f P b) i + (if rh_f P b i = true then 1 else 0) = _
        rw [hf0]
        rfl
      have kk := K hij
      rw [he] at kk
      exact kk
    · have hf1 : rh_f P b i = true := rh_ft.mpr ⟨rs_b0 c_21, fun e => c_27 (by rw [e])⟩
      have hle : rh_c (rh_f P b) i ≤ k := by
        have := rh_cmono (rh_f P b) (i := i) (j - i)
        rw [show i + (j - i) = j from by omega] at this
        omega
      have hc1 : rh_c (rh_f P b) (i + 1) = rh_c (rh_f P b) i + 1 := by
        show rh_c (rh_f P b) i + (if rh_f P b i = true then 1 else 0) = _
        rw [if_pos hf1]
      have hkb : k < 2 ^ 31 := by
        have : ∀ n, rh_c (rh_f P b) n ≤ n := by
          intro n
          induction n with
          | zero => exact Nat.le_refl 0
          | succ n ih =>
            show rh_c (rh_f P b) n + (if rh_f P b n = true then 1 else 0) ≤ n + 1
            split <;> omega
        have := this j
        omega
      refine pm_iload dX12_whole_30 rfl ?_
      refine pm_if_ne (tgt := 38) dX12_whole_32 (by decide) (fun c_32 => ?_) (fun c_32 => ?_)
      · have hne : ¬ k - rh_c (rh_f P b) i = 0 := fun z => c_32 (by rw [z]; rfl)
        rw [show k - rh_c (rh_f P b) i = (k - rh_c (rh_f P b) (i + 1)) + 1 from by omega]
        refine pm_iinc (lv2 := [(4, _), (5, _), (0, _), (1, _), (2, _), (3, _)]) dX12_whole_38 rfl (pk_m1 _) (Nat.le_of_ble_eq_true rfl) rfl ?_
        refine pm_iinc (lv2 := [(5, _), (4, _), (0, _), (1, _), (2, _), (3, _)]) dX12_whole_41 rfl (nI_1 i) (Nat.le_of_ble_eq_true rfl) rfl ?_
        refine pm_goto (tgt := 6) dX12_whole_44 (by decide) ?_
        refine pm_pick [0, 1, 2, 3, 4, 5] rfl ?_
        refine K ?_
        cases Nat.lt_or_ge i j with
        | inl h => exact h
        | inr h =>
          have e : i = j := by omega
          subst e
          omega
      · refine pm_iload dX12_whole_35 rfl ?_
        refine pm_iret dX12_whole_37 rfl rfl rfl ?_
        have e0 : k - rh_c (rh_f P b) i = 0 := (nI_eq (b := 0) (by omega) (by decide)).mp c_32
        have e : i = j := rh_cinj hf1 hf (by omega)
        subst e
        exact hQ

set_option maxHeartbeats 600000 in
set_option maxRecDepth 100000 in
theorem c_X12_whole {l : Launch} {G : pm_G} {ad : Nat → Nat → Nat} {a0 a3 a4 a5 a6 a7 : List pm_A} {a1 a2 : Nat → Option pm_A} {S : Nat → Nat} {A : Nat → Nat → Int32} {s : Nat → Int32} {B : Nat → Nat → Int32} {hs : Int64} {Q : pm_T} {N P k b j : Nat} {t g : Nat → Int32} (hN : N ≤ 5) (hP : P < 2 ^ 31) (hj : j < N + 1) (hb : b < 2 ^ 31) (hf : rh_f P b j = true) (hk : rh_c (rh_f P b) j = k) (hQ : Q ad (some (.int (nI j))) (a0, a1, a2, a3, a4, a5, a6, a7, rs_mp ad S A s B hs (nI (N + 1)) t g)) : pm_C l G m_X12_whole [.ref (ad 8 0), .int (nI P), .int (nI k), .int (nI b)] ad (a0, a1, a2, a3, a4, a5, a6, a7, rs_mp ad S A s B hs (nI (N + 1)) t g) Q := by
  refine pm_met (by decide) (Nat.le_of_ble_eq_true rfl) ?_
  refine pm_iload_n dX12_whole_0 rfl rfl ?_
  refine pm_istore (lv2 := [(4, _), (0, _), (1, _), (2, _), (3, _)]) dX12_whole_1 (Nat.le_of_ble_eq_true rfl) rfl ?_
  refine pm_iconst (v := 0) dX12_whole_3 (by decide) ?_
  refine pm_istore (lv2 := [(5, _), (4, _), (0, _), (1, _), (2, _), (3, _)]) dX12_whole_4 (Nat.le_of_ble_eq_true rfl) rfl ?_
  refine pm_pick [0, 1, 2, 3, 4, 5] rfl ?_
  suffices H : ∀ i, i ≤ j → pm_W l G m_X12_whole ad 6 [(5, .int (nI i)), (4, .int (nI (k - rh_c (rh_f P b) i))), (0, .ref (ad 8 0)), (1, .int (nI P)), (2, .int (nI k)), (3, .int (nI b))] [] (a0, a1, a2, a3, a4, a5, a6, a7, rs_mp ad S A s B hs (nI (N + 1)) t g) 0 0 Q from H 0 (Nat.zero_le _)
  refine th_loop _ ?_
  intro i hi K
  exact b_X12_whole hN hP hj hb hf hk hQ hi K

set_option maxHeartbeats 600000 in
set_option maxRecDepth 100000 in
theorem b_X12_reached {l : Launch} {G : pm_G} {ad : Nat → Nat → Nat} {a0 a3 a4 a5 a6 a7 : List pm_A} {a1 a2 : Nat → Option pm_A} {S : Nat → Nat} {A : Nat → Nat → Int32} {s : Nat → Int32} {B : Nat → Nat → Int32} {hs : Int64} {Q : pm_T} {N a z : Nat} {g : Nat → Int32} (hI : th_I S A) (hN : N = rs_N z) (hN5 : N ≤ 5) (ha : a < S 11) (hz : z < 2 ^ S 11) (hg : ∀ j, j ≤ N → g j = nI (rs_g a z j)) {m c P : Nat} {v : Nat → Nat} {t : Nat → Int32} (hm : m + 1 ≤ N) (hc : c < 2 ^ 31) (hP : P < 64) (hst : rh_st N (m + 1) P) (hv : (∀ j, j ≤ N → t j = nI (v j) ∧ v j ≤ 62)) (K : ∀ t2, (∀ j, j ≤ N → t2 j = nI (rh_up (rs_q S A a z) (rh_wi N P (m + 1) c) (rh_lo N P (m + 1) c) v j) ∧ rh_up (rs_q S A a z) (rh_wi N P (m + 1) c) (rh_lo N P (m + 1) c) v j ≤ 62) → pm_W l G m_X12_reached ad 52 [(4, .int (nI m)), (3, .int (nI (P ||| 2 ^ (rh_lo N P (m + 1) c)))), (2, .int (nI (c / ((m + 1) * (m + 1))))), (0, .ref (ad 8 0))] [] (a0, a1, a2, a3, a4, a5, a6, a7, rs_mp ad S A s B hs (nI (N + 1)) t2 g) 0 0 Q) : pm_W l G m_X12_reached ad 52 [(4, .int (nI (m + 1))), (3, .int (nI P)), (2, .int (nI c)), (0, .ref (ad 8 0))] [] (a0, a1, a2, a3, a4, a5, a6, a7, rs_mp ad S A s B hs (nI (N + 1)) t g) 0 0 Q := by
  have h8 := hI.2.2.2.2.1.1
  have hd0 : 0 < (m + 1) * (m + 1) := Nat.mul_pos (by omega) (by omega)
  have hd1 : (m + 1) * (m + 1) ≤ 5 * 5 := Nat.mul_le_mul (by omega) (by omega)
  have hmod : c % ((m + 1) * (m + 1)) < (m + 1) * (m + 1) := Nat.mod_lt _ hd0
  obtain ⟨l1, l2, l3, l4⟩ := rh_loP (z := c) hst
  obtain ⟨w1, w2, w3, w4⟩ := rh_wiP (z := c) hst
  have gl := rs_gb (S := S) (a := a) (j := (rh_lo N P (m + 1) c)) ha hz (hN ▸ l2)
  have gw := rs_gb (S := S) (a := a) (j := (rh_wi N P (m + 1) c)) ha hz (hN ▸ w1)
  obtain ⟨si, sj, mc, hsi, hsj, esi, esj, hmc, emc, ewc⟩ := rs_wm hI gw gl (hv (rh_wi N P (m + 1) c) w1).2 (hv (rh_lo N P (m + 1) c) l2).2
  have hs2 : S 2 ≤ 3 := hI.2.1.1
  refine pm_iload dX12_reached_52 rfl ?_
  refine pm_if_le (tgt := 166) dX12_reached_54 (by decide) (fun c_54 => absurd c_54 (by rw [show (0 : Int32) = nI 0 from rfl, nI_leI (by omega) (by decide)]; omega)) (fun c_54 => ?_)
  refine pm_iload_n dX12_reached_57 rfl rfl ?_
  refine pm_iload dX12_reached_58 rfl ?_
  refine pm_iload dX12_reached_60 rfl ?_
  refine pm_imul dX12_reached_62 ?_
  refine pm_irem dX12_reached_63 (by rw [pk_mul]; exact nI_ne0 hd0 (by omega)) ?_
  rw [pk_mul, pk_rem hc hd0 (by omega)]
  refine pm_istore (lv2 := [(5, _), (4, _), (3, _), (2, _), (0, _)]) dX12_reached_64 (Nat.le_of_ble_eq_true rfl) rfl ?_
  refine pm_iload_n dX12_reached_66 rfl rfl ?_
  refine pm_iload dX12_reached_67 rfl ?_
  refine pm_iload dX12_reached_69 rfl ?_
  refine pm_imul dX12_reached_71 ?_
  refine pm_idiv dX12_reached_72 (by rw [pk_mul]; exact nI_ne0 hd0 (by omega)) ?_
  rw [pk_mul, pk_div hc hd0 (by omega)]
  refine pm_istore_n (lv2 := [(2, _), (5, _), (4, _), (3, _), (0, _)]) dX12_reached_73 rfl (Nat.le_of_ble_eq_true rfl) rfl ?_
  refine pm_aload_n dX12_reached_74 rfl rfl ?_
  refine pm_iload_n dX12_reached_75 rfl rfl ?_
  refine pm_iload dX12_reached_76 rfl ?_
  refine pm_iload dX12_reached_78 rfl ?_
  refine pm_idiv dX12_reached_80 (nI_ne0 (by omega) (by omega)) ?_
  refine pm_iconst (v := 0) dX12_reached_81 (by decide) ?_
  rw [pk_div (by omega) (by omega) (by omega)]
  refine pm_callV (M2 := m_X12_whole) (As := [_, _, _]) ok_X12_whole (ci := 12) rfl kw_1265 kw_1267 kw_36 dX12_reached_82 rfl rfl rfl (Nat.le_of_ble_eq_true rfl) ⟨⟨Nat.le_of_ble_eq_true rfl, Nat.le_of_ble_eq_true rfl⟩, Nat.le_of_ble_eq_true rfl, Nat.le_of_ble_eq_true rfl⟩ ?_
  refine c_X12_whole (b := 0) (j := (rh_lo N P (m + 1) c)) hN5 (by omega) (by omega) (by decide) (rh_ft.mpr ⟨l3, by omega⟩) l4 ?_
  refine pm_istore (lv2 := [(6, _), (2, _), (5, _), (4, _), (3, _), (0, _)]) dX12_reached_85 (Nat.le_of_ble_eq_true rfl) rfl ?_
  refine pm_aload_n dX12_reached_87 rfl rfl ?_
  refine pm_iload_n dX12_reached_88 rfl rfl ?_
  refine pm_iload dX12_reached_89 rfl ?_
  refine pm_iload dX12_reached_91 rfl ?_
  refine pm_irem dX12_reached_93 (nI_ne0 (by omega) (by omega)) ?_
  refine pm_iload dX12_reached_94 rfl ?_
  rw [pk_rem (by omega) (by omega) (by omega)]
  refine pm_callV (M2 := m_X12_whole) (As := [_, _, _]) ok_X12_whole (ci := 12) rfl kw_1265 kw_1267 kw_36 dX12_reached_96 rfl rfl rfl (Nat.le_of_ble_eq_true rfl) ⟨⟨Nat.le_of_ble_eq_true rfl, Nat.le_of_ble_eq_true rfl⟩, Nat.le_of_ble_eq_true rfl, Nat.le_of_ble_eq_true rfl⟩ ?_
  refine c_X12_whole (b := (rh_lo N P (m + 1) c)) (j := (rh_wi N P (m + 1) c)) hN5 (by omega) (by omega) (by omega) (rh_ft.mpr ⟨w2, w3⟩) w4 ?_
  refine pm_istore (lv2 := [(7, _), (6, _), (2, _), (5, _), (4, _), (3, _), (0, _)]) dX12_reached_99 (Nat.le_of_ble_eq_true rfl) rfl ?_
  refine pm_aload_n dX12_reached_101 rfl rfl ?_
  refine pm_get fl_RX12_59_12 dX12_reached_102 rfl rfl ?_
  refine pm_iload dX12_reached_105 rfl ?_
  refine pm_aload_n dX12_reached_107 rfl rfl ?_
  refine pm_aload_n dX12_reached_108 rfl rfl ?_
  refine pm_get fl_RX12_28_12 dX12_reached_109 rfl rfl ?_
  refine pm_aload_n dX12_reached_112 rfl rfl ?_
  refine pm_get fl_RX12_62_12 dX12_reached_113 rfl rfl ?_
  refine pm_iload dX12_reached_116 rfl ?_
  refine pm_iald dX12_reached_118 rfl (th_in (show (rh_wi N P (m + 1) c) < 6 by omega) (by decide)) ?_
  rw [th_cl (by omega), hg (rh_wi N P (m + 1) c) w1]
  refine pm_iald dX12_reached_119 rfl (th_in (show _ < 8 by omega) (by decide)) ?_
  refine pm_aload_n dX12_reached_120 rfl rfl ?_
  refine pm_get fl_RX12_28_12 dX12_reached_121 rfl rfl ?_
  refine pm_aload_n dX12_reached_124 rfl rfl ?_
  refine pm_get fl_RX12_62_12 dX12_reached_125 rfl rfl ?_
  refine pm_iload dX12_reached_128 rfl ?_
  rw [th_cl (by omega), esi]
  refine pm_iald dX12_reached_130 rfl (th_in (show (rh_lo N P (m + 1) c) < 6 by omega) (by decide)) ?_
  rw [th_cl (by omega), hg (rh_lo N P (m + 1) c) l2]
  refine pm_iald dX12_reached_131 rfl (th_in (show _ < 8 by omega) (by decide)) ?_
  refine pm_aload_n dX12_reached_132 rfl rfl ?_
  refine pm_get fl_RX12_59_12 dX12_reached_133 rfl rfl ?_
  refine pm_iload dX12_reached_136 rfl ?_
  rw [th_cl (by omega), esj]
  refine pm_iald dX12_reached_138 rfl (th_in (show (rh_wi N P (m + 1) c) < 8 by omega) (by decide)) ?_
  refine pm_aload_n dX12_reached_139 rfl rfl ?_
  refine pm_get fl_RX12_59_12 dX12_reached_140 rfl rfl ?_
  refine pm_iload dX12_reached_143 rfl ?_
  rw [th_cl (show (rh_wi N P (m + 1) c) < 2 ^ 31 by omega), (hv (rh_wi N P (m + 1) c) w1).1]
  refine pm_iald dX12_reached_145 rfl (th_in (show (rh_lo N P (m + 1) c) < 8 by omega) (by decide)) ?_
  rw [th_cl (show (rh_lo N P (m + 1) c) < 2 ^ 31 by omega), (hv (rh_lo N P (m + 1) c) l2).1]
  refine pm_callV (M2 := m_X12_meet) (As := [_, _, _, _]) ok_X12_meet (ci := 12) rfl kw_1182 kw_1184 kw_29 dX12_reached_146 rfl rfl rfl (Nat.le_of_ble_eq_true rfl) ⟨⟨Nat.le_of_ble_eq_true rfl, Nat.le_of_ble_eq_true rfl⟩, Nat.le_of_ble_eq_true rfl, Nat.le_of_ble_eq_true rfl⟩ ?_
  refine c_X12_meet (s := upd s 33 (nI (N + 1))) (B := va_up (va_up B 17 t) 18 g) hI.2.1 hsi hsj hI.2.2.2.1 ?_
  rw [emc]
  refine pm_callS (M2 := m_X12_narrow) (As := [_]) ok_X12_narrow kw_1262 kw_1263 dX12_reached_149 rfl rfl (Nat.le_of_ble_eq_true rfl) ⟨⟨Nat.le_of_ble_eq_true rfl, Nat.le_of_ble_eq_true rfl⟩, Nat.le_of_ble_eq_true rfl, Nat.le_of_ble_eq_true rfl⟩ ?_
  refine c_X12_narrowN (by omega) ?_
  rw [ewc]
  refine pm_iast (w2 := (_, _, _, _, _, _, _, _, [_, _, _, _, _, _, _, _, _, _, _, _, _, _, _, _, _, _, _, _, _, _, _, _])) dX12_reached_152 rfl (th_in (show (rh_wi N P (m + 1) c) < 8 by omega) (by decide)) rfl ?_
  refine pm_iload_n dX12_reached_153 rfl rfl ?_
  refine pm_iconst (v := 1) dX12_reached_154 (by decide) ?_
  refine pm_iload dX12_reached_155 rfl ?_
  refine pm_ishl dX12_reached_157 ?_
  rw [th_sh1 (rh_lo N P (m + 1) c) (by omega)]
  refine pm_ior dX12_reached_158 ?_
  rw [rs_ior]
  refine pm_istore_n (lv2 := [(3, _), (7, _), (6, _), (2, _), (5, _), (4, _), (0, _)]) dX12_reached_159 rfl (Nat.le_of_ble_eq_true rfl) rfl ?_
  refine pm_iinc (lv2 := [(4, _), (3, _), (7, _), (6, _), (2, _), (5, _), (0, _)]) dX12_reached_160 rfl (pk_m1 m) (Nat.le_of_ble_eq_true rfl) rfl ?_
  refine pm_goto (tgt := 52) dX12_reached_163 (by decide) ?_
  refine pm_pick [0, 1, 4, 6] rfl ?_
  refine K _ (fun j hj => ?_)
  rw [th_cl (show (rh_wi N P (m + 1) c) < 2 ^ 31 by omega)]
  unfold rh_up
  by_cases e : j = (rh_wi N P (m + 1) c)
  · rw [if_pos e, e, pk_us]
    exact ⟨rfl, rs_wle _⟩
  · rw [if_neg e, pk_un e]
    exact hv j hj

set_option maxHeartbeats 600000 in
set_option maxRecDepth 100000 in
theorem e_X12_reached {l : Launch} {G : pm_G} {ad : Nat → Nat → Nat} {a0 a3 a4 a5 a6 a7 : List pm_A} {a1 a2 : Nat → Option pm_A} {S : Nat → Nat} {A : Nat → Nat → Int32} {s : Nat → Int32} {B : Nat → Nat → Int32} {hs : Int64} {Q : pm_T} {N P c : Nat} {g t : Nat → Int32} {v : Nat → Nat} (hv : (∀ j, j ≤ N → t j = nI (v j) ∧ v j ≤ 62)) (hQ : Q ad (some (.int (nI (v 0)))) (a0, a1, a2, a3, a4, a5, a6, a7, rs_mp ad S A s B hs (nI (N + 1)) t g)) : pm_W l G m_X12_reached ad 52 [(4, .int (nI 0)), (3, .int (nI P)), (2, .int (nI c)), (0, .ref (ad 8 0))] [] (a0, a1, a2, a3, a4, a5, a6, a7, rs_mp ad S A s B hs (nI (N + 1)) t g) 0 0 Q := by
  refine pm_iload dX12_reached_52 rfl ?_
  refine pm_if_le (tgt := 166) dX12_reached_54 (by decide) (fun c_54 => ?_) (fun c_54 => absurd (by decide) c_54)
  refine pm_aload_n dX12_reached_166 rfl rfl ?_
  refine pm_get fl_RX12_59_12 dX12_reached_167 rfl rfl ?_
  refine pm_iconst (v := 0) dX12_reached_170 (by decide) ?_
  refine pm_iald dX12_reached_171 rfl (show vp_in (nI 0) 8 from th_in (by decide) (by decide)) ?_
  refine pm_iret dX12_reached_172 rfl rfl rfl ?_
  refine th_r ?_ hQ
  exact (hv 0 (Nat.zero_le _)).1.symm

theorem l_X12_reached {l : Launch} {G : pm_G} {ad : Nat → Nat → Nat} {a0 a3 a4 a5 a6 a7 : List pm_A} {a1 a2 : Nat → Option pm_A} {S : Nat → Nat} {A : Nat → Nat → Int32} {s : Nat → Int32} {B : Nat → Nat → Int32} {hs : Int64} {Q : pm_T} {N a z : Nat} {g : Nat → Int32} (hI : th_I S A) (hN : N = rs_N z) (hN5 : N ≤ 5) (ha : a < S 11) (hz : z < 2 ^ S 11) (hg : ∀ j, j ≤ N → g j = nI (rs_g a z j)) : ∀ (m c P : Nat) (v : Nat → Nat) (t : Nat → Int32), m ≤ N → c < 2 ^ 31 → P < 64 → rh_st N m P → (∀ j, j ≤ N → t j = nI (v j) ∧ v j ≤ 62) → (∀ t2, Q ad (some (.int (nI (rh_rr N (rs_q S A a z) m c P v)))) (a0, a1, a2, a3, a4, a5, a6, a7, rs_mp ad S A s B hs (nI (N + 1)) t2 g)) → pm_W l G m_X12_reached ad 52 [(4, .int (nI m)), (3, .int (nI P)), (2, .int (nI c)), (0, .ref (ad 8 0))] [] (a0, a1, a2, a3, a4, a5, a6, a7, rs_mp ad S A s B hs (nI (N + 1)) t g) 0 0 Q := by
  intro m
  induction m with
  | zero =>
    intro c P v t hm hc hP hst hv hQ
    exact e_X12_reached hv (hQ t)
  | succ m ih =>
    intro c P v t hm hc hP hst hv hQ
    obtain ⟨l1, l2, l3, l4⟩ := rh_loP (z := c) hst
    refine b_X12_reached hI hN hN5 ha hz hg hm hc hP hst hv (fun t2 ht2 => ?_)
    have hp2 : 2 ^ rh_lo N P (m + 1) c < 2 ^ 6 := Nat.pow_lt_pow_right (by decide) (by omega)
    exact ih _ _ _ t2 (by omega) (Nat.lt_of_le_of_lt (Nat.div_le_self _ _) hc) (Nat.or_lt_two_pow (n := 6) hP hp2) (rh_stn hst l1 l2 l3) ht2 hQ
set_option maxHeartbeats 600000 in
set_option maxRecDepth 100000 in
theorem b_X12_reached0 {l : Launch} {G : pm_G} {ad : Nat → Nat → Nat} {a0 a3 a4 a5 a6 a7 : List pm_A} {a1 a2 : Nat → Option pm_A} {S : Nat → Nat} {A : Nat → Nat → Int32} {s : Nat → Int32} {B : Nat → Nat → Int32} {hs : Int64} {Q : pm_T} {N a z : Nat} {g : Nat → Int32} (hI : th_I S A) (hN : N = rs_N z) (hN5 : N ≤ 5) (ha : a < S 11) (hz : z < 2 ^ S 11) (hg : ∀ j, j ≤ N → g j = nI (rs_g a z j)) {c i : Nat} {t : Nat → Int32} (hi : i < N + 1) (hv : (∀ j, j < i → t j = nI (rs_c A a z j))) (K : ∀ t2, (∀ j, j < (i + 1) → t2 j = nI (rs_c A a z j)) → pm_W l G m_X12_reached ad 7 [(4, .int (nI (i + 1))), (3, .int (nI 0)), (2, .int (nI c)), (0, .ref (ad 8 0)), (1, .int (nI c))] [] (a0, a1, a2, a3, a4, a5, a6, a7, rs_mp ad S A s B hs (nI (N + 1)) t2 g) 0 0 Q) : pm_W l G m_X12_reached ad 7 [(4, .int (nI i)), (3, .int (nI 0)), (2, .int (nI c)), (0, .ref (ad 8 0)), (1, .int (nI c))] [] (a0, a1, a2, a3, a4, a5, a6, a7, rs_mp ad S A s B hs (nI (N + 1)) t g) 0 0 Q := by
  have h8 := hI.2.2.2.2.1.1
  have gi := rs_gb (S := S) (a := a) (j := i) ha hz (by omega)
  obtain ⟨-, -, -, ⟨cc, hcc, ec⟩, -⟩ := th_nk hI gi
  refine pm_iload dX12_reached_7 rfl ?_
  refine pm_aload_n dX12_reached_9 rfl rfl ?_
  refine pm_get fl_RX12_218_12 dX12_reached_10 rfl rfl ?_
  refine pm_icmp_ge (tgt := 44) dX12_reached_13 (by decide) (fun c_13 => absurd c_13 (by rw [nI_leI (by omega) (by omega)]; omega)) (fun c_13 => ?_)
  refine pm_aload_n dX12_reached_16 rfl rfl ?_
  refine pm_get fl_RX12_59_12 dX12_reached_17 rfl rfl ?_
  refine pm_iload dX12_reached_20 rfl ?_
  refine pm_aload_n dX12_reached_22 rfl rfl ?_
  refine pm_get fl_RX12_34_12 dX12_reached_23 rfl rfl ?_
  refine pm_aload_n dX12_reached_26 rfl rfl ?_
  refine pm_get fl_RX12_62_12 dX12_reached_27 rfl rfl ?_
  refine pm_iload dX12_reached_30 rfl ?_
  refine pm_iald dX12_reached_32 rfl (th_in (show i < 6 by omega) (by decide)) ?_
  rw [th_cl (by omega), hg i (by omega)]
  refine pm_iald dX12_reached_33 rfl (th_in (show _ < 8 by omega) (by decide)) ?_
  rw [th_cl (by omega), ec]
  refine pm_callS (M2 := m_X12_narrow) (As := [_]) ok_X12_narrow kw_1262 kw_1263 dX12_reached_34 rfl rfl (Nat.le_of_ble_eq_true rfl) ⟨⟨Nat.le_of_ble_eq_true rfl, Nat.le_of_ble_eq_true rfl⟩, Nat.le_of_ble_eq_true rfl, Nat.le_of_ble_eq_true rfl⟩ ?_
  refine c_X12_narrowN (by omega) ?_
  refine pm_iast (w2 := (_, _, _, _, _, _, _, _, [_, _, _, _, _, _, _, _, _, _, _, _, _, _, _, _, _, _, _, _, _, _, _, _])) dX12_reached_37 rfl (th_in (show i < 8 by omega) (by decide)) rfl ?_
  refine pm_iinc (lv2 := [(4, _), (3, _), (2, _), (0, _), (1, _)]) dX12_reached_38 rfl (nI_1 i) (Nat.le_of_ble_eq_true rfl) rfl ?_
  refine pm_goto (tgt := 7) dX12_reached_41 (by decide) ?_
  refine pm_pick [0, 1, 2, 3, 4] rfl ?_
  refine K _ (fun j hj => ?_)
  rw [th_cl (show i < 2 ^ 31 by omega)]
  by_cases e : j = i
  · rw [e, pk_us, rs_c, ec, th_n_nI (by omega)]
  · rw [pk_un e]
    exact hv j (by omega)

set_option maxHeartbeats 600000 in
set_option maxRecDepth 100000 in
theorem c_X12_reached {l : Launch} {G : pm_G} {ad : Nat → Nat → Nat} {a0 a3 a4 a5 a6 a7 : List pm_A} {a1 a2 : Nat → Option pm_A} {S : Nat → Nat} {A : Nat → Nat → Int32} {s : Nat → Int32} {B : Nat → Nat → Int32} {hs : Int64} {Q : pm_T} {N a z : Nat} {g : Nat → Int32} (hI : th_I S A) (hN : N = rs_N z) (hN5 : N ≤ 5) (ha : a < S 11) (hz : z < 2 ^ S 11) (hg : ∀ j, j ≤ N → g j = nI (rs_g a z j)) {c : Nat} {t : Nat → Int32} (hc : c < 2 ^ 31) (hQ : ∀ t2, Q ad (some (.int (nI (rh_rr N (rs_q S A a z) N c 0 (rs_c A a z))))) (a0, a1, a2, a3, a4, a5, a6, a7, rs_mp ad S A s B hs (nI (N + 1)) t2 g)) : pm_C l G m_X12_reached [.ref (ad 8 0), .int (nI c)] ad (a0, a1, a2, a3, a4, a5, a6, a7, rs_mp ad S A s B hs (nI (N + 1)) t g) Q := by
  refine pm_met (by decide) (Nat.le_of_ble_eq_true rfl) ?_
  refine pm_iload_n dX12_reached_0 rfl rfl ?_
  refine pm_istore_n (lv2 := [(2, _), (0, _), (1, _)]) dX12_reached_1 rfl (Nat.le_of_ble_eq_true rfl) rfl ?_
  refine pm_iconst (v := 0) dX12_reached_2 (by decide) ?_
  refine pm_istore_n (lv2 := [(3, _), (2, _), (0, _), (1, _)]) dX12_reached_3 rfl (Nat.le_of_ble_eq_true rfl) rfl ?_
  refine pm_iconst (v := 0) dX12_reached_4 (by decide) ?_
  refine pm_istore (lv2 := [(4, _), (3, _), (2, _), (0, _), (1, _)]) dX12_reached_5 (Nat.le_of_ble_eq_true rfl) rfl ?_
  suffices H : ∀ i, i ≤ N + 1 → ∀ t, (∀ j, j < i → t j = nI (rs_c A a z j)) → pm_W l G m_X12_reached ad 7 [(4, .int (nI i)), (3, .int (nI 0)), (2, .int (nI c)), (0, .ref (ad 8 0)), (1, .int (nI c))] [] (a0, a1, a2, a3, a4, a5, a6, a7, rs_mp ad S A s B hs (nI (N + 1)) t g) 0 0 Q from H 0 (Nat.zero_le _) t (fun j hj => absurd hj (Nat.not_lt_zero j))
  refine th_loop _ ?_
  intro i hi K t hv
  by_cases hlt : i < N + 1
  · exact b_X12_reached0 hI hN hN5 ha hz hg hlt hv (K hlt)
  have he : i = N + 1 := by omega
  subst he
  refine pm_iload dX12_reached_7 rfl ?_
  refine pm_aload_n dX12_reached_9 rfl rfl ?_
  refine pm_get fl_RX12_218_12 dX12_reached_10 rfl rfl ?_
  refine pm_icmp_ge (tgt := 44) dX12_reached_13 (by decide) (fun c_13 => ?_) (fun c_13 => absurd (Int32.le_refl _) c_13)
  refine pm_aload_n dX12_reached_44 rfl rfl ?_
  refine pm_get fl_RX12_218_12 dX12_reached_45 rfl rfl ?_
  refine pm_iconst (v := 1) dX12_reached_48 (by decide) ?_
  refine pm_isub dX12_reached_49 ?_
  refine pm_istore (lv2 := [(4, _), (3, _), (2, _), (0, _), (1, _)]) dX12_reached_50 (Nat.le_of_ble_eq_true rfl) rfl ?_
  refine pm_pick [0, 1, 2, 3] rfl ?_
  rw [show nI (N + 1) - 1 = nI N from pk_sub (a := N + 1) (b := 1) (by omega)]
  exact l_X12_reached hI hN hN5 ha hz hg N c 0 (rs_c A a z) t (Nat.le_refl _) hc (by decide) (rh_st0 N) (fun j hj => ⟨hv j (by omega), rs_wle _⟩) hQ

theorem rs_okc {S : Nat → Nat} {x : Int32} (h : S 11 ≤ 8) : (0 ≤ x ∧ x ≤ (1 : Int32) <<< (nI (S 11) &&& 31) - 1) ↔ th_ok x (2 ^ S 11) := by rw [th_sh1 (S 11) (by omega)]
set_option maxHeartbeats 600000 in
set_option maxRecDepth 100000 in
theorem b_X12_reach68 {l : Launch} {G : pm_G} {ad : Nat → Nat → Nat} {a0 a3 a4 a5 a6 a7 : List pm_A} {a1 a2 : Nat → Option pm_A} {S : Nat → Nat} {A : Nat → Nat → Int32} {s : Nat → Int32} {B : Nat → Nat → Int32} {hs : Int64} {Q : pm_T} {a z i : Nat} {t g : Nat → Int32} (h8 : S 11 ≤ 8) (ha : a < S 11) (hz : z < 2 ^ S 11) (hb : rs_N z ≤ 5) (hi : i < S 11) (hg : (∀ j, j ≤ (rh_c z.testBit i) → g j = nI (rs_g a z j))) (K : ∀ g2, (∀ j, j ≤ (rh_c z.testBit (i + 1)) → g2 j = nI (rs_g a z j)) → pm_W l G m_X12_reach ad 68 [(4, .int (nI (i + 1))), (3, .int (nI (rh_W (rh_c z.testBit (i + 1))))), (0, .ref (ad 8 0)), (1, .int (nI a)), (2, .int (nI z))] [] (a0, a1, a2, a3, a4, a5, a6, a7, rs_mp ad S A s B hs (nI ((rh_c z.testBit (i + 1)) + 1)) t g2) 0 0 Q) : pm_W l G m_X12_reach ad 68 [(4, .int (nI i)), (3, .int (nI (rh_W (rh_c z.testBit i)))), (0, .ref (ad 8 0)), (1, .int (nI a)), (2, .int (nI z))] [] (a0, a1, a2, a3, a4, a5, a6, a7, rs_mp ad S A s B hs (nI ((rh_c z.testBit i) + 1)) t g) 0 0 Q := by
  have hp2 := th_isp (n := 0) (show S 11 ≤ 10 by omega)
  refine pm_iload dX12_reach_68 rfl ?_
  refine pm_aload_n dX12_reach_70 rfl rfl ?_
  refine pm_get fl_RX12_137_12 dX12_reach_71 rfl rfl ?_
  refine pm_icmp_ge (tgt := 126) dX12_reach_74 (by decide) (fun c_74 => absurd c_74 (by rw [nI_leI (by omega) (by omega)]; omega)) (fun c_74 => ?_)
  refine pm_iload_n dX12_reach_77 rfl rfl ?_
  refine pm_iload dX12_reach_78 rfl ?_
  refine pm_ishr dX12_reach_80 ?_
  refine pm_iconst (v := 1) dX12_reach_81 (by decide) ?_
  refine pm_iand dX12_reach_82 ?_
  rw [th_bit (by omega) (by omega)]
  refine pm_iconst (v := 1) dX12_reach_83 (by decide) ?_
  refine pm_icmp_ne (tgt := 120) dX12_reach_84 (by decide) (fun c_84 => ?_) (fun c_84 => ?_)
  · refine pm_iinc (lv2 := [(4, _), (3, _), (0, _), (1, _), (2, _)]) dX12_reach_120 rfl (nI_1 i) (Nat.le_of_ble_eq_true rfl) rfl ?_
    refine pm_goto (tgt := 68) dX12_reach_123 (by decide) ?_
    refine pm_pick [0, 1, 2, 3, 4] rfl ?_
    have e : (rh_c z.testBit (i + 1)) = (rh_c z.testBit i) := by
      show (rh_c z.testBit i) + (if z.testBit i = true then 1 else 0) = _
      rw [rs_bn1 c_84]
      rfl
    have kk := K g (by rw [e]; exact hg)
    rw [e] at kk
    exact kk
  · have hbt := rs_be1 c_84
    have e : (rh_c z.testBit (i + 1)) = (rh_c z.testBit i) + 1 := by
      show (rh_c z.testBit i) + (if z.testBit i = true then 1 else 0) = _
      rw [if_pos hbt]
    have hlt5 : (rh_c z.testBit i) < 5 := Nat.lt_of_lt_of_le (rh_clt (f := z.testBit) (show i < 8 by omega) hbt) hb
    have hpk : rs_g a z ((rh_c z.testBit i) + 1) = i := rh_pke hbt rfl 8 (by omega)
    refine pm_iload_n dX12_reach_87 rfl rfl ?_
    refine pm_aload_n dX12_reach_88 rfl rfl ?_
    refine pm_get fl_RX12_218_12 dX12_reach_89 rfl rfl ?_
    refine pm_aload_n dX12_reach_92 rfl rfl ?_
    refine pm_get fl_RX12_218_12 dX12_reach_93 rfl rfl ?_
    refine pm_imul dX12_reach_96 ?_
    refine pm_imul dX12_reach_97 ?_
    rw [pk_mul, pk_mul, show rh_W (rh_c z.testBit i) * (((rh_c z.testBit i) + 1) * ((rh_c z.testBit i) + 1)) = rh_W ((rh_c z.testBit i) + 1) from Nat.mul_comm _ _]
    refine pm_istore_n (lv2 := [(3, _), (4, _), (0, _), (1, _), (2, _)]) dX12_reach_98 rfl (Nat.le_of_ble_eq_true rfl) rfl ?_
    refine pm_aload_n dX12_reach_99 rfl rfl ?_
    refine pm_get fl_RX12_62_12 dX12_reach_100 rfl rfl ?_
    refine pm_aload_n dX12_reach_103 rfl rfl ?_
    refine pm_get fl_RX12_218_12 dX12_reach_104 rfl rfl ?_
    refine pm_iload dX12_reach_107 rfl ?_
    refine pm_iast (w2 := (_, _, _, _, _, _, _, _, [_, _, _, _, _, _, _, _, _, _, _, _, _, _, _, _, _, _, _, _, _, _, _, _])) dX12_reach_109 rfl (th_in (show (rh_c z.testBit i) + 1 < 6 by omega) (by decide)) rfl ?_
    refine pm_aload_n dX12_reach_110 rfl rfl ?_
    refine pm_dup dX12_reach_111 rfl ?_
    refine pm_get fl_RX12_218_12 dX12_reach_112 rfl rfl ?_
    refine pm_iconst (v := 1) dX12_reach_115 (by decide) ?_
    refine pm_iadd dX12_reach_116 ?_
    rw [nI_1]
    refine pm_put (w2 := (_, _, _, _, _, _, _, _, [.inr (_, [_, _, _, _, _, _, _, _, _, _, _, _, _, _, _, _, _, _, _, _, _, _, _, _, _, _, _, _, _, _, _, _, _, _, _, _, _, _, _, _, _, _, _, _]), _, _, _, _, _, _, _, _, _, _, _, _, _, _, _, _, _, _, _, _, _, _, _])) fl_RX12_218_12 fp_12_33 dX12_reach_117 rfl rfl rfl (Nat.le_of_ble_eq_true rfl) rfl ?_
    refine pm_iinc (lv2 := [(4, _), (3, _), (0, _), (1, _), (2, _)]) dX12_reach_120 rfl (nI_1 i) (Nat.le_of_ble_eq_true rfl) rfl ?_
    refine pm_goto (tgt := 68) dX12_reach_123 (by decide) ?_
    refine pm_pick [0, 1, 2, 3, 4] rfl ?_
    rw [th_cl (show (rh_c z.testBit i) + 1 < 2 ^ 31 by omega)]
    have kk := K (upd g ((rh_c z.testBit i) + 1) (nI i)) (fun j hj => by
      by_cases ej : j = (rh_c z.testBit i) + 1
      · rw [ej, pk_us, hpk]
      · rw [pk_un ej]
        exact hg j (by omega))
    rw [e] at kk
    exact kk

set_option maxHeartbeats 600000 in
set_option maxRecDepth 100000 in
theorem b_X12_reach132 {l : Launch} {G : pm_G} {ad : Nat → Nat → Nat} {a0 a3 a4 a5 a6 a7 : List pm_A} {a1 a2 : Nat → Option pm_A} {S : Nat → Nat} {A : Nat → Nat → Int32} {s : Nat → Int32} {B : Nat → Nat → Int32} {hs : Int64} {Q : pm_T} {a z k : Nat} {t g : Nat → Int32} (hI : th_I S A) (ha : a < S 11) (hz : z < 2 ^ S 11) (hb : rs_N z ≤ 5) (hg : ∀ j, j ≤ rs_N z → g j = nI (rs_g a z j)) (hk : k < rh_W (rs_N z)) (K : ∀ t2, pm_W l G m_X12_reach ad 132 [(6, .int (nI (k + 1))), (4, .long (lN (rs_fo (rs_one S A a z) (k + 1)))), (3, .int (nI (rh_W (rs_N z)))), (0, .ref (ad 8 0)), (1, .int (nI a)), (2, .int (nI z))] [] (a0, a1, a2, a3, a4, a5, a6, a7, rs_mp ad S A s B hs (nI (rs_N z + 1)) t2 g) 0 0 Q) : pm_W l G m_X12_reach ad 132 [(6, .int (nI k)), (4, .long (lN (rs_fo (rs_one S A a z) k))), (3, .int (nI (rh_W (rs_N z)))), (0, .ref (ad 8 0)), (1, .int (nI a)), (2, .int (nI z))] [] (a0, a1, a2, a3, a4, a5, a6, a7, rs_mp ad S A s B hs (nI (rs_N z + 1)) t g) 0 0 Q := by
  have hW := rs_W5 (rs_N z) (by omega)
  refine pm_iload dX12_reach_132 rfl ?_
  refine pm_iload_n dX12_reach_134 rfl rfl ?_
  refine pm_icmp_ge (tgt := 157) dX12_reach_135 (by decide) (fun c_135 => absurd c_135 (by rw [nI_leI (by omega) (by omega)]; omega)) (fun c_135 => ?_)
  refine pm_lload dX12_reach_138 rfl ?_
  refine pm_lconst (v := 1) dX12_reach_140 (by decide) ?_
  refine pm_aload_n dX12_reach_141 rfl rfl ?_
  refine pm_iload dX12_reach_142 rfl ?_
  refine pm_callV (M2 := m_X12_reached) (As := [_]) ok_X12_reached (ci := 12) rfl kw_1258 kw_1260 kw_35 dX12_reach_144 rfl rfl rfl (Nat.le_of_ble_eq_true rfl) ⟨⟨Nat.le_of_ble_eq_true rfl, Nat.le_of_ble_eq_true rfl⟩, Nat.le_of_ble_eq_true rfl, Nat.le_of_ble_eq_true rfl⟩ ?_
  refine c_X12_reached (N := rs_N z) hI rfl hb ha hz hg (by omega) (fun t2 => ?_)
  refine pm_lshl dX12_reach_147 ?_
  rw [rb_one (rh_rr (rs_N z) (rs_q S A a z) (rs_N z) k 0 (rs_c A a z)) (Nat.lt_succ_of_le (rs_rrb (S := S) (A := A) (a := a) hk))]
  refine pm_lor dX12_reach_148 ?_
  rw [rb_or]
  refine pm_lstore (lv2 := [(4, _), (6, _), (3, _), (0, _), (1, _), (2, _)]) dX12_reach_149 (Nat.le_of_ble_eq_true rfl) rfl ?_
  refine pm_iinc (lv2 := [(6, _), (4, _), (3, _), (0, _), (1, _), (2, _)]) dX12_reach_151 rfl (nI_1 k) (Nat.le_of_ble_eq_true rfl) rfl ?_
  refine pm_goto (tgt := 132) dX12_reach_154 (by decide) ?_
  refine pm_pick [0, 1, 2, 3, 4, 5] rfl ?_
  exact K t2

set_option maxHeartbeats 600000 in
set_option maxRecDepth 100000 in
theorem c_X12_reach {l : Launch} {G : pm_G} {ad : Nat → Nat → Nat} {a0 a3 a4 a5 a6 a7 : List pm_A} {a1 a2 : Nat → Option pm_A} {S : Nat → Nat} {A : Nat → Nat → Int32} {s : Nat → Int32} {B : Nat → Nat → Int32} {hs : Int64} {Q : pm_T} {x y : Int32} (hI : th_I S A) (hQ : ∀ s2 B2, Q ad (some (.long (rs_A S A x y))) (a0, a1, a2, a3, a4, a5, a6, a7, th_mp ad S A s2 B2 hs)) : pm_C l G m_X12_reach [.ref (ad 8 0), .int x, .int y] ad (a0, a1, a2, a3, a4, a5, a6, a7, th_mp ad S A s B hs) Q := by
  have h8 := hI.2.2.2.2.1.1
  have hp2 := th_isp (n := 0) (show S 11 ≤ 10 by omega)
  refine pm_met (by decide) (Nat.le_of_ble_eq_true rfl) ?_
  refine pm_aload_n dX12_reach_0 rfl rfl ?_
  refine pm_iload_n dX12_reach_1 rfl rfl ?_
  refine pm_callV (M2 := m_X12_isNut) (As := [_]) ok_X12_isNut (ci := 12) rfl kw_1154 kw_1156 kw_24 dX12_reach_2 rfl rfl rfl (Nat.le_of_ble_eq_true rfl) ⟨⟨Nat.le_of_ble_eq_true rfl, Nat.le_of_ble_eq_true rfl⟩, Nat.le_of_ble_eq_true rfl, Nat.le_of_ble_eq_true rfl⟩ ?_
  refine c_X12_isNut h8 (fun a ha e => ?_) (fun hn => ?_)
  · subst e
    refine pm_if_ne (tgt := 12) dX12_reach_5 (by decide) (fun c_5 => ?_) (fun c_5 => absurd c_5 (by decide))
    refine pm_iload_n dX12_reach_12 rfl rfl ?_
    refine pm_i2l dX12_reach_13 ?_
    refine pm_lconst (v := 0) dX12_reach_14 (by decide) ?_
    refine pm_iconst (v := 1) dX12_reach_15 (by decide) ?_
    refine pm_aload_n dX12_reach_16 rfl rfl ?_
    refine pm_get fl_RX12_137_12 dX12_reach_17 rfl rfl ?_
    refine pm_ishl dX12_reach_20 ?_
    refine pm_iconst (v := 1) dX12_reach_21 (by decide) ?_
    refine pm_isub dX12_reach_22 ?_
    refine pm_i2l dX12_reach_23 ?_
    refine pm_callS (M2 := m_X12_in) (As := [_, _, _]) ok_X12_in kw_1115 kw_1116 dX12_reach_24 rfl rfl (Nat.le_of_ble_eq_true rfl) ⟨⟨Nat.le_of_ble_eq_true rfl, Nat.le_of_ble_eq_true rfl⟩, Nat.le_of_ble_eq_true rfl, Nat.le_of_ble_eq_true rfl⟩ ?_
    refine c_X12_in32 (lo := 0) (hi := 1 <<< (nI (S 11) &&& 31) - 1) rfl rfl (fun u v => ?_) (fun u => ?_)
    · have okz := (rs_okc h8).mp ⟨u, v⟩
      obtain ⟨z, hz, rfl⟩ := (th_is_iff (by omega)).mp okz
      obtain ⟨hNn, hbN⟩ := rs_Nn hz h8
      have hblz := th_bits_le z 10
      refine pm_if_eq (tgt := 47) dX12_reach_27 (by decide) (fun c_27 => absurd c_27 (by decide)) (fun c_27 => ?_)
      refine pm_iload_n dX12_reach_30 rfl rfl ?_
      refine pm_iload_n dX12_reach_31 rfl rfl ?_
      refine pm_ishr dX12_reach_32 ?_
      refine pm_iconst (v := 1) dX12_reach_33 (by decide) ?_
      refine pm_iand dX12_reach_34 ?_
      rw [th_bit (by omega) (by omega)]
      refine pm_iconst (v := 1) dX12_reach_35 (by decide) ?_
      refine pm_icmp_eq (tgt := 47) dX12_reach_36 (by decide) (fun c_36 => ?_) (fun c_36 => ?_)
      · refine pm_ldc2 kw_1257 dX12_reach_47 ?_
        refine pm_lret dX12_reach_50 rfl rfl rfl ?_
        refine th_rl ?_ (hQ s B)
        rw [rs_A, if_pos (th_okt ha (by omega)), if_neg (fun h => by have h2 := h.2.1; rw [th_n_nI (by omega), th_n_nI (by omega), rs_be1 c_36] at h2; exact absurd h2 (by decide))]
      · refine pm_iload_n dX12_reach_39 rfl rfl ?_
        refine pm_callS (M2 := m_X12_bitsOf) (As := [_]) ok_X12_bitsOf kw_1240 kw_1241 dX12_reach_40 rfl rfl (Nat.le_of_ble_eq_true rfl) ⟨⟨Nat.le_of_ble_eq_true rfl, Nat.le_of_ble_eq_true rfl⟩, Nat.le_of_ble_eq_true rfl, Nat.le_of_ble_eq_true rfl⟩ ?_
        refine c_X12_bitsOf (by omega) ?_
        refine pm_iconst (v := 5) dX12_reach_43 (by decide) ?_
        refine pm_icmp_le (tgt := 51) dX12_reach_44 (by decide) (fun c_44 => ?_) (fun c_44 => ?_)
        · have hb : rs_N z ≤ 5 := by
            have h2 := (nI_leI (b := 5) (by omega) (by decide)).mp c_44
            omega
          have hok : rs_ok S (th_n (nI a)) (nI z) := ⟨okz, by rw [th_n_nI (by omega), th_n_nI (by omega)]; exact rs_bn1 c_36, by rw [th_n_nI (by omega)]; omega⟩
          refine pm_aload_n dX12_reach_51 rfl rfl ?_
          refine pm_get fl_RX12_62_12 dX12_reach_52 rfl rfl ?_
          refine pm_iconst (v := 0) dX12_reach_55 (by decide) ?_
          refine pm_iload_n dX12_reach_56 rfl rfl ?_
          refine pm_iast (w2 := (_, _, _, _, _, _, _, _, [_, _, _, _, _, _, _, _, _, _, _, _, _, _, _, _, _, _, _, _, _, _, _, _])) dX12_reach_57 rfl (show vp_in (nI 0) 6 from th_in (by decide) (by decide)) rfl ?_
          refine pm_aload_n dX12_reach_58 rfl rfl ?_
          refine pm_iconst (v := 1) dX12_reach_59 (by decide) ?_
          refine pm_put (w2 := (_, _, _, _, _, _, _, _, [.inr (_, [_, _, _, _, _, _, _, _, _, _, _, _, _, _, _, _, _, _, _, _, _, _, _, _, _, _, _, _, _, _, _, _, _, _, _, _, _, _, _, _, _, _, _, _]), _, _, _, _, _, _, _, _, _, _, _, _, _, _, _, _, _, _, _, _, _, _, _])) fl_RX12_218_12 fp_12_33 dX12_reach_60 rfl rfl rfl (Nat.le_of_ble_eq_true rfl) rfl ?_
          refine pm_iconst (v := 1) dX12_reach_63 (by decide) ?_
          refine pm_istore_n (lv2 := [(3, _), (0, _), (1, _), (2, _)]) dX12_reach_64 rfl (Nat.le_of_ble_eq_true rfl) rfl ?_
          refine pm_iconst (v := 0) dX12_reach_65 (by decide) ?_
          refine pm_istore (lv2 := [(4, _), (3, _), (0, _), (1, _), (2, _)]) dX12_reach_66 (Nat.le_of_ble_eq_true rfl) rfl ?_
          suffices H : ∀ i, i ≤ S 11 → ∀ g, (∀ j, j ≤ (rh_c z.testBit i) → g j = nI (rs_g a z j)) → pm_W l G m_X12_reach ad 68 [(4, .int (nI i)), (3, .int (nI (rh_W (rh_c z.testBit i)))), (0, .ref (ad 8 0)), (1, .int (nI a)), (2, .int (nI z))] [] (a0, a1, a2, a3, a4, a5, a6, a7, rs_mp ad S A s B hs (nI ((rh_c z.testBit i) + 1)) (B 17) g) 0 0 Q from H 0 (Nat.zero_le _) _ (fun j hj => by
            have e : j = 0 := Nat.le_zero.mp hj
            subst e
            rfl)
          refine th_loop _ ?_
          intro i hi K g hg
          by_cases hlt : i < S 11
          · exact b_X12_reach68 h8 ha hz hb hlt hg (K hlt)
          have he : i = S 11 := by omega
          subst he
          rw [← hNn] at hg ⊢
          refine pm_iload dX12_reach_68 rfl ?_
          refine pm_aload_n dX12_reach_70 rfl rfl ?_
          refine pm_get fl_RX12_137_12 dX12_reach_71 rfl rfl ?_
          refine pm_icmp_ge (tgt := 126) dX12_reach_74 (by decide) (fun c_74 => ?_) (fun c_74 => absurd (Int32.le_refl _) c_74)
          refine pm_lconst (v := 0) dX12_reach_126 (by decide) ?_
          refine pm_lstore (lv2 := [(4, _), (3, _), (0, _), (1, _), (2, _)]) dX12_reach_127 (Nat.le_of_ble_eq_true rfl) rfl ?_
          refine pm_iconst (v := 0) dX12_reach_129 (by decide) ?_
          refine pm_istore (lv2 := [(6, _), (4, _), (3, _), (0, _), (1, _), (2, _)]) dX12_reach_130 (Nat.le_of_ble_eq_true rfl) rfl ?_
          suffices H : ∀ k, k ≤ rh_W (rs_N z) → ∀ t, pm_W l G m_X12_reach ad 132 [(6, .int (nI k)), (4, .long (lN (rs_fo (rs_one S A a z) k))), (3, .int (nI (rh_W (rs_N z)))), (0, .ref (ad 8 0)), (1, .int (nI a)), (2, .int (nI z))] [] (a0, a1, a2, a3, a4, a5, a6, a7, rs_mp ad S A s B hs (nI (rs_N z + 1)) t g) 0 0 Q from H 0 (Nat.zero_le _) (B 17)
          refine th_loop _ ?_
          intro k hk K t
          by_cases hlt : k < rh_W (rs_N z)
          · exact b_X12_reach132 hI ha hz hb hg hlt (K hlt)
          have he : k = rh_W (rs_N z) := by omega
          subst he
          refine pm_iload dX12_reach_132 rfl ?_
          refine pm_iload_n dX12_reach_134 rfl rfl ?_
          refine pm_icmp_ge (tgt := 157) dX12_reach_135 (by decide) (fun c_135 => ?_) (fun c_135 => absurd (Int32.le_refl _) c_135)
          refine pm_lload dX12_reach_157 rfl ?_
          refine pm_lret dX12_reach_159 rfl rfl rfl ?_
          refine th_rl ?_ (hQ (upd s 33 (nI (rs_N z + 1))) (va_up (va_up B 17 t) 18 g))
          rw [rs_A, if_pos (th_okt ha (by omega)), if_pos hok, th_n_nI (by omega), th_n_nI (by omega)]
          rfl
        · refine pm_ldc2 kw_1257 dX12_reach_47 ?_
          refine pm_lret dX12_reach_50 rfl rfl rfl ?_
          refine th_rl ?_ (hQ s B)
          rw [rs_A, if_pos (th_okt ha (by omega)), if_neg (fun h => c_44 (by have h2 := h.2.2; rw [th_n_nI (by omega)] at h2; exact (nI_leI (b := 5) (by omega) (by decide)).mpr h2))]
    · rw [rs_okc h8] at u
      refine pm_if_eq (tgt := 47) dX12_reach_27 (by decide) (fun c_27 => ?_) (fun c_27 => absurd (rfl) c_27)
      refine pm_ldc2 kw_1257 dX12_reach_47 ?_
      refine pm_lret dX12_reach_50 rfl rfl rfl ?_
      refine th_rl ?_ (hQ s B)
      rw [rs_A, if_pos (th_okt ha (by omega)), if_neg (fun h => u h.1)]
  · refine pm_if_ne (tgt := 12) dX12_reach_5 (by decide) (fun c_5 => absurd (rfl) c_5) (fun c_5 => ?_)
    refine pm_ldc2 kw_1256 dX12_reach_8 ?_
    refine pm_lret dX12_reach_11 rfl rfl rfl ?_
    refine th_rl ?_ (hQ s B)
    rw [rs_A, if_neg (th_okf hn (by omega))]

