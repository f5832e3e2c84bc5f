def rs_h5 (ad : Nat → Nat → Nat) (sz : Int32) (F : Nat → Int64) (Hd : Nat → Option Nat) : List pm_A := [.inr (9, [.ref (ad 5 1), .ref (ad 5 2), .int sz]), .inl (4, 6, .inr (.inr (.inr (.inr Hd)))), .inl (1, 192, .inr (.inl F))]
def rs_cz (ad : Nat → Nat → Nat) (S : Nat → Nat) (A : Nat → Nat → Int32) (X : Nat → Int32) (Y : Nat → Nat → Int32) (F : Nat → Int64) (Hd Cs : Nat → Option Nat) (m : List pm_A) (sz : Int32) : pm_V := (th_g0 ad S Y, th_g1 S A, th_g2 ad S A Y, th_g3 ad S A X Y, th_g4 ad S A X Y, rs_h5 ad sz F Hd, th_g6 ad S A Cs, th_g7 X, m)
theorem rs_cle (f : Nat → Bool) : ∀ n, rh_c f n ≤ n := by
  intro n
  induction n with
  | zero => exact Nat.le_refl 0
  | succ n ih =>
    show rh_c f n + (if f n = true then 1 else 0) ≤ n + 1
    split <;> omega
/-- where a head of the class stands among them all -/
def rs_s (N h : Nat) : Nat := if h = N then 0 else h + 1
theorem rs_sN (N : Nat) : rs_s N N = 0 := if_pos rfl
theorem rs_sl {N h : Nat} (h1 : h < N) : rs_s N h = h + 1 := if_neg (by omega)
theorem rs_sle {N h : Nat} (h1 : h ≤ N) : rs_s N h ≤ N := by unfold rs_s; split <;> omega
theorem rs_minI {n : Nat} (hn : n < 2 ^ 31) : (if nI n < (62 : Int32) then nI n else 62) = nI (rs_w n) := by
  unfold rs_w
  by_cases h : 62 ≤ n
  · rw [if_pos h, if_neg (show ¬ nI n < (62 : Int32) from fun z => absurd ((nI_ltI (b := 62) hn (by decide)).mp z) (by omega))]
    rfl
  · rw [if_neg h, if_pos (show nI n < (62 : Int32) from (nI_ltI (b := 62) hn (by decide)).mpr (by omega))]
theorem rs_mm {S : Nat → Nat} {A : Nat → Nat → Int32} {i j x y si sj c : Nat} (hi : si < 3) (hj : sj < 3) (esi : A 7 i = nI si) (esj : A 7 j = nI sj) (hc : c ≤ 999) (ec : th_meet A (S 6) si sj (nI x) (nI y) = nI c) : rs_m S A i j x y = rs_w c := by
  unfold rs_m
  rw [esi, esj, th_n_nI (by omega), th_n_nI (by omega), ec, th_n_nI (by omega)]
theorem rs_adv {M p n Z : Nat} (hM : M < 2 ^ 63) (h : rh_c M.testBit 64 = rh_c M.testBit p + (n + 1)) (hZ : ∀ b, Z.testBit b = (M.testBit b && decide (p ≤ b))) : ∃ t, p ≤ t ∧ t < 63 ∧ M.testBit t = true ∧ Z.testBit t = true ∧ (∀ j, j < t → Z.testBit j = false) ∧ rh_c M.testBit 64 = rh_c M.testBit (t + 1) + n ∧ (∀ b, (Z &&& (Z - 1)).testBit b = (M.testBit b && decide (t + 1 ≤ b))) ∧ ∀ y, p ≤ y → M.testBit y = true → y = t ∨ t + 1 ≤ y := by
  obtain ⟨t, h1, h2, h3⟩ := rh_cex (f := M.testBit) (k := rh_c M.testBit p) 64 (by omega)
  have hpt : p ≤ t := by
    cases Nat.lt_or_ge t p with
    | inl q => have := rh_clt (f := M.testBit) q h2; omega
    | inr q => exact q
  have hbt : ∀ y, p ≤ y → M.testBit y = true → t ≤ y := by
    intro y hy hm
    cases Nat.lt_or_ge y t with
    | inr q => exact q
    | inl q =>
      have a1 := rh_clt (f := M.testBit) q hm
      have a2 := rh_cmono M.testBit (i := p) (y - p)
      rw [show p + (y - p) = y from by omega] at a2
      omega
  have ht : t < 63 := by
    cases Nat.lt_or_ge t 63 with
    | inl q => exact q
    | inr q => rw [rs_hi hM q] at h2; exact absurd h2 (by decide)
  have zt : Z.testBit t = true := by rw [hZ, h2]; simp [hpt]
  have zl : ∀ j, j < t → Z.testBit j = false := by
    intro j hj
    rw [hZ]
    cases hm : M.testBit j
    · rfl
    · by_cases hp : p ≤ j
      · have := hbt j hp hm; omega
      · simp [hp]
  have hc : rh_c M.testBit (t + 1) = rh_c M.testBit t + 1 := by
    show rh_c M.testBit t + (if M.testBit t = true then 1 else 0) = _
    rw [if_pos h2]
  refine ⟨t, hpt, ht, h2, zt, zl, by omega, fun b => ?_, fun y hy hm => ?_⟩
  · rw [rb_clr zt zl, hZ]
    cases hm : M.testBit b
    · rfl
    · by_cases e : b = t
      · subst e; simp
      · by_cases hp : p ≤ b
        · have := hbt b hp hm
          simp [hp, e, show t + 1 ≤ b by omega]
        · simp [hp, show ¬ t + 1 ≤ b by omega]
  · have := hbt y hy hm; omega
theorem rs_end {M p : Nat} (hM : M < 2 ^ 63) (h : rh_c M.testBit 64 = rh_c M.testBit p + 0) (y : Nat) (hy : p ≤ y) : M.testBit y = false := by
  cases hm : M.testBit y
  · rfl
  · have hy63 : y < 64 := by
      cases Nat.lt_or_ge y 64 with
      | inl q => exact q
      | inr q => rw [rs_hi hM (by omega)] at hm; exact absurd hm (by decide)
    have a1 := rh_clt (f := M.testBit) hy63 hm
    have a2 := rh_cmono M.testBit (i := p) (y - p)
    rw [show p + (y - p) = y from by omega] at a2
    omega
theorem rs_clt63 {Z : Nat} (h : Z < 2 ^ 63) : Z &&& (Z - 1) < 2 ^ 63 := Nat.lt_of_le_of_lt Nat.and_le_left h
theorem rs_pos {Z t : Nat} (h : Z.testBit t = true) : 1 ≤ Z := by
  cases Z with
  | zero => rw [Nat.zero_testBit] at h; exact absurd h (by decide)
  | succ n => omega
theorem rs_o63 {C v : Nat} (hC : C < 2 ^ 63) (hv : v ≤ 62) : C ||| 2 ^ v < 2 ^ 63 := Nat.or_lt_two_pow hC (Nat.pow_lt_pow_right (by decide) (by omega))
set_option maxHeartbeats 600000 in
set_option maxRecDepth 100000 in
theorem i_CA {l : Launch} {G : pm_G} {ad : Nat → Nat → Nat} {S : Nat → Nat} {A : Nat → Nat → Int32} {X : Nat → Int32} {Y : Nat → Nat → Int32} {F : Nat → Int64} {Hd Cs : Nat → Option Nat} {m : List pm_A} {Q : pm_T} {z : Nat} {M1 M2 i j si sj : Nat} (hI : th_I S A) (hM1 : M1 < 2 ^ 63) (hM2 : M2 < 2 ^ 63) (hi : i < S 11) (hj : j < S 11) (hsi : si < S 2) (hsj : sj < S 2) (esi : A 7 i = nI si) (esj : A 7 j = nI sj) {n x n1 Xs Ys C t : Nat} (hn : n < 64) (hY : Ys < 2 ^ 63) (ht : Ys.testBit t = true) (hl : ∀ b, b < t → Ys.testBit b = false) (ht63 : t < 63) (hx : x ≤ 62) (K : pm_W l G m_X9_countsOfAll ad 54 [(15, .int (nI n)), (13, .long (lN (Ys &&& (Ys - 1)))), (12, .int (nI x)), (11, .int (nI n1)), (9, .long (lN Xs)), (7, .long (lN (C ||| 2 ^ rs_m S A i j x t))), (0, .ref (ad 2 i)), (1, .ref (ad 2 j)), (2, .long (lN M1)), (4, .long (lN M2)), (6, .int (nI (S 6)))] [] (rs_cz ad S A X Y F Hd Cs m (nI (rs_N z))) 0 0 Q) : pm_W l G m_X9_countsOfAll ad 54 [(15, .int (nI (n + 1))), (13, .long (lN Ys)), (12, .int (nI x)), (11, .int (nI n1)), (9, .long (lN Xs)), (7, .long (lN C)), (0, .ref (ad 2 i)), (1, .ref (ad 2 j)), (2, .long (lN M1)), (4, .long (lN M2)), (6, .int (nI (S 6)))] [] (rs_cz ad S A X Y F Hd Cs m (nI (rs_N z))) 0 0 Q := by
  have hs2 : S 2 ≤ 3 := hI.2.1.1
  obtain ⟨mc, hmc, emc⟩ := th_meet_bd (how := S 6) hI.2.1 hsi hsj (show x ≤ 999 by omega) (show t ≤ 999 by omega)
  refine pm_iload dX9_countsOfAll_54 rfl ?_
  refine pm_if_le (tgt := 114) dX9_countsOfAll_56 (by decide) (fun c_56 => absurd c_56 (by rw [show (0 : Int32) = nI 0 from rfl, nI_leI (by omega) (by decide)]; omega)) (fun c_56 => ?_)
  refine pm_lload dX9_countsOfAll_59 rfl ?_
  refine pm_callS (M2 := m_J13_numberOfTrailingZeros_95d88) (As := [_]) ok_J13_numberOfTrailingZeros_95d88 kw_756 kw_757 dX9_countsOfAll_61 rfl rfl (Nat.le_of_ble_eq_true rfl) ⟨⟨Nat.le_of_ble_eq_true rfl, Nat.le_of_ble_eq_true rfl⟩, Nat.le_of_ble_eq_true rfl, Nat.le_of_ble_eq_true rfl⟩ ?_
  refine c_Lntz hY ht hl ?_
  refine pm_istore (lv2 := [(16, _), (15, _), (13, _), (12, _), (11, _), (9, _), (7, _), (0, _), (1, _), (2, _), (4, _), (6, _)]) dX9_countsOfAll_64 (Nat.le_of_ble_eq_true rfl) rfl ?_
  refine pm_lload dX9_countsOfAll_66 rfl ?_
  refine pm_lload dX9_countsOfAll_68 rfl ?_
  refine pm_lconst (v := 1) dX9_countsOfAll_70 (by decide) ?_
  refine pm_lsub dX9_countsOfAll_71 ?_
  refine pm_land dX9_countsOfAll_72 ?_
  rw [show lN Ys - 1 = lN (Ys - 1) from lN_sub (b := 1) (rs_pos ht), rb_and]
  refine pm_lstore (lv2 := [(13, _), (16, _), (15, _), (12, _), (11, _), (9, _), (7, _), (0, _), (1, _), (2, _), (4, _), (6, _)]) dX9_countsOfAll_73 (Nat.le_of_ble_eq_true rfl) rfl ?_
  refine pm_aload_n dX9_countsOfAll_75 rfl rfl ?_
  refine pm_get (fn_RX9_55 _) dX9_countsOfAll_76 (show pm_get? _ 2 i = _ from th_nt_get hi) rfl ?_
  rw [esi, th_n_nI (by omega)]
  refine pm_aload_n dX9_countsOfAll_79 rfl rfl ?_
  refine pm_get (fn_RX9_55 _) dX9_countsOfAll_80 (show pm_get? _ 2 j = _ from th_nt_get hj) rfl ?_
  rw [esj, th_n_nI (by omega)]
  refine pm_iload dX9_countsOfAll_83 rfl ?_
  refine pm_iload dX9_countsOfAll_85 rfl ?_
  refine pm_iload dX9_countsOfAll_87 rfl ?_
  refine pm_callV (M2 := m_X10_countOver) (As := [_, _, _, _]) ok_X10_countOver (ci := 10) rfl kw_763 kw_613 kw_614 dX9_countsOfAll_89 (show pm_get? _ 1 si = some (.inr (10, th_sf A si)) from th_sc_get hsi) rfl rfl (Nat.le_of_ble_eq_true rfl) ⟨⟨Nat.le_of_ble_eq_true rfl, Nat.le_of_ble_eq_true rfl⟩, Nat.le_of_ble_eq_true rfl, Nat.le_of_ble_eq_true rfl⟩ ?_
  refine c_X10_countOver hI.2.1 hsi hsj hI.2.2.2.1 (th_sc_get hsi) (th_sc_get hsj) ?_
  rw [emc]
  refine pm_istore (lv2 := [(17, _), (13, _), (16, _), (15, _), (12, _), (11, _), (9, _), (7, _), (0, _), (1, _), (2, _), (4, _), (6, _)]) dX9_countsOfAll_92 (Nat.le_of_ble_eq_true rfl) rfl ?_
  refine pm_lload dX9_countsOfAll_94 rfl ?_
  refine pm_lconst (v := 1) dX9_countsOfAll_96 (by decide) ?_
  refine pm_bipush (v := 62) dX9_countsOfAll_97 (by decide) ?_
  refine pm_iload dX9_countsOfAll_99 rfl ?_
  refine pm_min kw_742 kw_372 kw_54 kw_373 (Nat.le_of_ble_eq_true rfl) (Nat.le_of_ble_eq_true rfl) (Nat.le_of_ble_eq_true rfl) (Nat.le_of_ble_eq_true rfl) dX9_countsOfAll_101 ?_
  refine pm_lshl dX9_countsOfAll_104 ?_
  rw [rs_minI (by omega), rb_one (rs_w mc) (Nat.lt_succ_of_le (rs_wle mc))]
  refine pm_lor dX9_countsOfAll_105 ?_
  rw [rb_or, ← rs_mm (S := S) (by omega) (by omega) esi esj hmc emc]
  refine pm_lstore (lv2 := [(7, _), (17, _), (13, _), (16, _), (15, _), (12, _), (11, _), (9, _), (0, _), (1, _), (2, _), (4, _), (6, _)]) dX9_countsOfAll_106 (Nat.le_of_ble_eq_true rfl) rfl ?_
  refine pm_iinc (lv2 := [(15, _), (7, _), (17, _), (13, _), (16, _), (12, _), (11, _), (9, _), (0, _), (1, _), (2, _), (4, _), (6, _)]) dX9_countsOfAll_108 rfl (pk_m1 n) (Nat.le_of_ble_eq_true rfl) rfl ?_
  refine pm_goto (tgt := 54) dX9_countsOfAll_111 (by decide) ?_
  refine pm_pick [0, 3, 5, 6, 7, 1, 8, 9, 10, 11, 12] rfl ?_
  exact K

theorem l_CA {l : Launch} {G : pm_G} {ad : Nat → Nat → Nat} {S : Nat → Nat} {A : Nat → Nat → Int32} {X : Nat → Int32} {Y : Nat → Nat → Int32} {F : Nat → Int64} {Hd Cs : Nat → Option Nat} {m : List pm_A} {Q : pm_T} {z : Nat} {M1 M2 i j si sj : Nat} (hI : th_I S A) (hM1 : M1 < 2 ^ 63) (hM2 : M2 < 2 ^ 63) (hi : i < S 11) (hj : j < S 11) (hsi : si < S 2) (hsj : sj < S 2) (esi : A 7 i = nI si) (esj : A 7 j = nI sj) {x n1 Xs : Nat} (hx : x ≤ 62) : ∀ (n p Ys C : Nat), rh_c M2.testBit 64 = rh_c M2.testBit p + n → Ys < 2 ^ 63 → (∀ b, Ys.testBit b = (M2.testBit b && decide (p ≤ b))) → C < 2 ^ 63 → (∀ C2 Ys2, C2 < 2 ^ 63 → (∀ v, C2.testBit v = true ↔ (C.testBit v = true ∨ ∃ y, p ≤ y ∧ M2.testBit y = true ∧ v = rs_m S A i j x y)) → pm_W l G m_X9_countsOfAll ad 54 [(15, .int (nI 0)), (13, .long (lN Ys2)), (12, .int (nI x)), (11, .int (nI n1)), (9, .long (lN Xs)), (7, .long (lN C2)), (0, .ref (ad 2 i)), (1, .ref (ad 2 j)), (2, .long (lN M1)), (4, .long (lN M2)), (6, .int (nI (S 6)))] [] (rs_cz ad S A X Y F Hd Cs m (nI (rs_N z))) 0 0 Q) → pm_W l G m_X9_countsOfAll ad 54 [(15, .int (nI n)), (13, .long (lN Ys)), (12, .int (nI x)), (11, .int (nI n1)), (9, .long (lN Xs)), (7, .long (lN C)), (0, .ref (ad 2 i)), (1, .ref (ad 2 j)), (2, .long (lN M1)), (4, .long (lN M2)), (6, .int (nI (S 6)))] [] (rs_cz ad S A X Y F Hd Cs m (nI (rs_N z))) 0 0 Q := by
  intro n
  induction n with
  | zero =>
    intro p Ys C hc hY hb hC K
    refine K C Ys hC (fun v => ⟨Or.inl, fun q => q.elim id (fun ⟨y, h1, h2, _⟩ => ?_)⟩)
    rw [rs_end hM2 hc y h1] at h2
    exact absurd h2 (by decide)
  | succ n ih =>
    intro p Ys C hc hY hb hC K
    obtain ⟨t, a1, a2, a3, a4, a5, a6, a7, a8⟩ := rs_adv hM2 hc hb
    have hn : n < 64 := by
      have := rs_cle M2.testBit 64
      omega
    refine i_CA hI hM1 hM2 hi hj hsi hsj esi esj hn hY a4 a5 a2 hx (ih (t + 1) (Ys &&& (Ys - 1)) (C ||| 2 ^ rs_m S A i j x t) a6 (rs_clt63 hY) a7 (rs_o63 hC (rs_wle _)) (fun C2 Ys2 hC2 h2 => K C2 Ys2 hC2 (fun v => ?_)))
    rw [h2, rh_orb, Bool.or_eq_true, decide_eq_true_iff]
    constructor
    · rintro ((h | h) | ⟨y, b1, b2, b3⟩)
      · exact Or.inl h
      · exact Or.inr ⟨t, a1, a3, h.symm⟩
      · exact Or.inr ⟨y, by omega, b2, b3⟩
    · rintro (h | ⟨y, b1, b2, b3⟩)
      · exact Or.inl (Or.inl h)
      · rcases a8 y b1 b2 with e | e
        · subst e; exact Or.inl (Or.inr b3.symm)
        · exact Or.inr ⟨y, e, b2, b3⟩
set_option maxHeartbeats 600000 in
set_option maxRecDepth 100000 in
theorem e_CA {l : Launch} {G : pm_G} {ad : Nat → Nat → Nat} {S : Nat → Nat} {A : Nat → Nat → Int32} {X : Nat → Int32} {Y : Nat → Nat → Int32} {F : Nat → Int64} {Hd Cs : Nat → Option Nat} {m : List pm_A} {Q : pm_T} {z : Nat} {M1 M2 i j x n Xs Ys C : Nat} (K : pm_W l G m_X9_countsOfAll ad 22 [(11, .int (nI n)), (9, .long (lN Xs)), (7, .long (lN C)), (0, .ref (ad 2 i)), (1, .ref (ad 2 j)), (2, .long (lN M1)), (4, .long (lN M2)), (6, .int (nI (S 6)))] [] (rs_cz ad S A X Y F Hd Cs m (nI (rs_N z))) 0 0 Q) : pm_W l G m_X9_countsOfAll ad 54 [(15, .int (nI 0)), (13, .long (lN Ys)), (12, .int (nI x)), (11, .int (nI (n + 1))), (9, .long (lN Xs)), (7, .long (lN C)), (0, .ref (ad 2 i)), (1, .ref (ad 2 j)), (2, .long (lN M1)), (4, .long (lN M2)), (6, .int (nI (S 6)))] [] (rs_cz ad S A X Y F Hd Cs m (nI (rs_N z))) 0 0 Q := by
  refine pm_iload dX9_countsOfAll_54 rfl ?_
  refine pm_if_le (tgt := 114) dX9_countsOfAll_56 (by decide) (fun c_56 => ?_) (fun c_56 => absurd (by decide) c_56)
  refine pm_iinc (lv2 := [(11, _), (15, _), (13, _), (12, _), (9, _), (7, _), (0, _), (1, _), (2, _), (4, _), (6, _)]) dX9_countsOfAll_114 rfl (pk_m1 n) (Nat.le_of_ble_eq_true rfl) rfl ?_
  refine pm_goto (tgt := 22) dX9_countsOfAll_117 (by decide) ?_
  refine pm_pick [0, 4, 5, 6, 7, 8, 9, 10] rfl ?_
  exact K

set_option maxHeartbeats 600000 in
set_option maxRecDepth 100000 in
theorem o_CA {l : Launch} {G : pm_G} {ad : Nat → Nat → Nat} {S : Nat → Nat} {A : Nat → Nat → Int32} {X : Nat → Int32} {Y : Nat → Nat → Int32} {F : Nat → Int64} {Hd Cs : Nat → Option Nat} {m : List pm_A} {Q : pm_T} {z : Nat} {M1 M2 i j si sj : Nat} (hI : th_I S A) (hM1 : M1 < 2 ^ 63) (hM2 : M2 < 2 ^ 63) (hi : i < S 11) (hj : j < S 11) (hsi : si < S 2) (hsj : sj < S 2) (esi : A 7 i = nI si) (esj : A 7 j = nI sj) {n Xs C t : Nat} (hn : n < 64) (hX : Xs < 2 ^ 63) (ht : Xs.testBit t = true) (hl : ∀ b, b < t → Xs.testBit b = false) (ht63 : t < 63) (hC : C < 2 ^ 63) (K : ∀ C2, C2 < 2 ^ 63 → (∀ v, C2.testBit v = true ↔ (C.testBit v = true ∨ ∃ y, M2.testBit y = true ∧ v = rs_m S A i j t y)) → pm_W l G m_X9_countsOfAll ad 22 [(11, .int (nI n)), (9, .long (lN (Xs &&& (Xs - 1)))), (7, .long (lN C2)), (0, .ref (ad 2 i)), (1, .ref (ad 2 j)), (2, .long (lN M1)), (4, .long (lN M2)), (6, .int (nI (S 6)))] [] (rs_cz ad S A X Y F Hd Cs m (nI (rs_N z))) 0 0 Q) : pm_W l G m_X9_countsOfAll ad 22 [(11, .int (nI (n + 1))), (9, .long (lN Xs)), (7, .long (lN C)), (0, .ref (ad 2 i)), (1, .ref (ad 2 j)), (2, .long (lN M1)), (4, .long (lN M2)), (6, .int (nI (S 6)))] [] (rs_cz ad S A X Y F Hd Cs m (nI (rs_N z))) 0 0 Q := by
  refine pm_iload dX9_countsOfAll_22 rfl ?_
  refine pm_if_le (tgt := 120) dX9_countsOfAll_24 (by decide) (fun c_24 => absurd c_24 (by rw [show (0 : Int32) = nI 0 from rfl, nI_leI (by omega) (by decide)]; omega)) (fun c_24 => ?_)
  refine pm_lload dX9_countsOfAll_27 rfl ?_
  refine pm_callS (M2 := m_J13_numberOfTrailingZeros_95d88) (As := [_]) ok_J13_numberOfTrailingZeros_95d88 kw_756 kw_757 dX9_countsOfAll_29 rfl rfl (Nat.le_of_ble_eq_true rfl) ⟨⟨Nat.le_of_ble_eq_true rfl, Nat.le_of_ble_eq_true rfl⟩, Nat.le_of_ble_eq_true rfl, Nat.le_of_ble_eq_true rfl⟩ ?_
  refine c_Lntz hX ht hl ?_
  refine pm_istore (lv2 := [(12, _), (11, _), (9, _), (7, _), (0, _), (1, _), (2, _), (4, _), (6, _)]) dX9_countsOfAll_32 (Nat.le_of_ble_eq_true rfl) rfl ?_
  refine pm_lload dX9_countsOfAll_34 rfl ?_
  refine pm_lload dX9_countsOfAll_36 rfl ?_
  refine pm_lconst (v := 1) dX9_countsOfAll_38 (by decide) ?_
  refine pm_lsub dX9_countsOfAll_39 ?_
  refine pm_land dX9_countsOfAll_40 ?_
  rw [show lN Xs - 1 = lN (Xs - 1) from lN_sub (b := 1) (rs_pos ht), rb_and]
  refine pm_lstore (lv2 := [(9, _), (12, _), (11, _), (7, _), (0, _), (1, _), (2, _), (4, _), (6, _)]) dX9_countsOfAll_41 (Nat.le_of_ble_eq_true rfl) rfl ?_
  refine pm_lload dX9_countsOfAll_43 rfl ?_
  refine pm_lstore (lv2 := [(13, _), (9, _), (12, _), (11, _), (7, _), (0, _), (1, _), (2, _), (4, _), (6, _)]) dX9_countsOfAll_45 (Nat.le_of_ble_eq_true rfl) rfl ?_
  refine pm_lload dX9_countsOfAll_47 rfl ?_
  refine pm_callS (M2 := m_J13_bitCount_95d88) (As := [_]) ok_J13_bitCount_95d88 kw_750 kw_751 dX9_countsOfAll_49 rfl rfl (Nat.le_of_ble_eq_true rfl) ⟨⟨Nat.le_of_ble_eq_true rfl, Nat.le_of_ble_eq_true rfl⟩, Nat.le_of_ble_eq_true rfl, Nat.le_of_ble_eq_true rfl⟩ ?_
  refine c_LbitCount (by omega) ?_
  refine pm_istore (lv2 := [(15, _), (13, _), (9, _), (12, _), (11, _), (7, _), (0, _), (1, _), (2, _), (4, _), (6, _)]) dX9_countsOfAll_52 (Nat.le_of_ble_eq_true rfl) rfl ?_
  refine pm_pick [0, 1, 3, 4, 2, 5, 6, 7, 8, 9, 10] rfl ?_
  refine l_CA hI hM1 hM2 hi hj hsi hsj esi esj (show t ≤ 62 by omega) (rh_c M2.testBit 64) 0 M2 C (by show _ = 0 + _; omega) hM2 (fun b => by simp) hC (fun C2 Ys2 hC2 h2 => ?_)
  refine e_CA (K C2 hC2 (fun v => ?_))
  rw [h2]
  exact ⟨fun q => q.elim Or.inl (fun ⟨y, _, b⟩ => Or.inr ⟨y, b⟩), fun q => q.elim Or.inl (fun ⟨y, b⟩ => Or.inr ⟨y, Nat.zero_le _, b⟩)⟩

set_option maxHeartbeats 600000 in
set_option maxRecDepth 100000 in
theorem z_CA {l : Launch} {G : pm_G} {ad : Nat → Nat → Nat} {S : Nat → Nat} {A : Nat → Nat → Int32} {X : Nat → Int32} {Y : Nat → Nat → Int32} {F : Nat → Int64} {Hd Cs : Nat → Option Nat} {m : List pm_A} {Q : pm_T} {z : Nat} {M1 M2 i j Xs C : Nat} (hQ : Q ad (some (.long (lN C))) (rs_cz ad S A X Y F Hd Cs m (nI (rs_N z)))) : pm_W l G m_X9_countsOfAll ad 22 [(11, .int (nI 0)), (9, .long (lN Xs)), (7, .long (lN C)), (0, .ref (ad 2 i)), (1, .ref (ad 2 j)), (2, .long (lN M1)), (4, .long (lN M2)), (6, .int (nI (S 6)))] [] (rs_cz ad S A X Y F Hd Cs m (nI (rs_N z))) 0 0 Q := by
  refine pm_iload dX9_countsOfAll_22 rfl ?_
  refine pm_if_le (tgt := 120) dX9_countsOfAll_24 (by decide) (fun c_24 => ?_) (fun c_24 => absurd (by decide) c_24)
  refine pm_lload dX9_countsOfAll_120 rfl ?_
  refine pm_lret dX9_countsOfAll_122 rfl rfl rfl ?_
  exact hQ

theorem l2_CA {l : Launch} {G : pm_G} {ad : Nat → Nat → Nat} {S : Nat → Nat} {A : Nat → Nat → Int32} {X : Nat → Int32} {Y : Nat → Nat → Int32} {F : Nat → Int64} {Hd Cs : Nat → Option Nat} {m : List pm_A} {Q : pm_T} {z : Nat} {M1 M2 i j si sj : Nat} (hI : th_I S A) (hM1 : M1 < 2 ^ 63) (hM2 : M2 < 2 ^ 63) (hi : i < S 11) (hj : j < S 11) (hsi : si < S 2) (hsj : sj < S 2) (esi : A 7 i = nI si) (esj : A 7 j = nI sj) : ∀ (n p Xs C : Nat), rh_c M1.testBit 64 = rh_c M1.testBit p + n → Xs < 2 ^ 63 → (∀ b, Xs.testBit b = (M1.testBit b && decide (p ≤ b))) → C < 2 ^ 63 → (∀ C2, C2 < 2 ^ 63 → (∀ v, C2.testBit v = true ↔ (C.testBit v = true ∨ ∃ x y, p ≤ x ∧ M1.testBit x = true ∧ M2.testBit y = true ∧ v = rs_m S A i j x y)) → Q ad (some (.long (lN C2))) (rs_cz ad S A X Y F Hd Cs m (nI (rs_N z)))) → pm_W l G m_X9_countsOfAll ad 22 [(11, .int (nI n)), (9, .long (lN Xs)), (7, .long (lN C)), (0, .ref (ad 2 i)), (1, .ref (ad 2 j)), (2, .long (lN M1)), (4, .long (lN M2)), (6, .int (nI (S 6)))] [] (rs_cz ad S A X Y F Hd Cs m (nI (rs_N z))) 0 0 Q := by
  intro n
  induction n with
  | zero =>
    intro p Xs C hc hX hb hC K
    refine z_CA (K C hC (fun v => ⟨Or.inl, fun q => q.elim id (fun ⟨x, y, h1, h2, _⟩ => ?_)⟩))
    rw [rs_end hM1 hc x h1] at h2
    exact absurd h2 (by decide)
  | succ n ih =>
    intro p Xs C hc hX hb hC K
    obtain ⟨t, a1, a2, a3, a4, a5, a6, a7, a8⟩ := rs_adv hM1 hc hb
    have hn : n < 64 := by
      have := rs_cle M1.testBit 64
      omega
    refine o_CA hI hM1 hM2 hi hj hsi hsj esi esj hn hX a4 a5 a2 hC (fun C2 hC2 h2 => ih (t + 1) (Xs &&& (Xs - 1)) C2 a6 (rs_clt63 hX) a7 hC2 (fun C3 hC3 h3 => K C3 hC3 (fun v => ?_)))
    rw [h3, h2]
    constructor
    · rintro ((h | ⟨y, b1, b2⟩) | ⟨x, y, b1, b2, b3, b4⟩)
      · exact Or.inl h
      · exact Or.inr ⟨t, y, a1, a3, b1, b2⟩
      · exact Or.inr ⟨x, y, by omega, b2, b3, b4⟩
    · rintro (h | ⟨x, y, b1, b2, b3, b4⟩)
      · exact Or.inl (Or.inl h)
      · rcases a8 x b1 b2 with e | e
        · subst e; exact Or.inl (Or.inr ⟨y, b3, b4⟩)
        · exact Or.inr ⟨x, y, e, b2, b3, b4⟩
set_option maxHeartbeats 600000 in
set_option maxRecDepth 100000 in
theorem c_X9_countsOfAll {l : Launch} {G : pm_G} {ad : Nat → Nat → Nat} {S : Nat → Nat} {A : Nat → Nat → Int32} {X : Nat → Int32} {Y : Nat → Nat → Int32} {F : Nat → Int64} {Hd Cs : Nat → Option Nat} {m : List pm_A} {Q : pm_T} {z : Nat} {M1 M2 i j : Nat} (hI : th_I S A) (hM1 : M1 < 2 ^ 63) (hM2 : M2 < 2 ^ 63) (hi : i < S 11) (hj : j < S 11) (hQ : ∀ C, C < 2 ^ 63 → (∀ v, C.testBit v = true ↔ ∃ x y, M1.testBit x = true ∧ M2.testBit y = true ∧ v = rs_m S A i j x y) → Q ad (some (.long (lN C))) (rs_cz ad S A X Y F Hd Cs m (nI (rs_N z)))) : pm_C l G m_X9_countsOfAll [.ref (ad 2 i), .ref (ad 2 j), .long (lN M1), .long (lN M2), .int (nI (S 6))] ad (rs_cz ad S A X Y F Hd Cs m (nI (rs_N z))) Q := by
  obtain ⟨-, ⟨si, hsi, esi⟩, -⟩ := th_nk hI hi
  obtain ⟨-, ⟨sj, hsj, esj⟩, -⟩ := th_nk hI hj
  refine pm_met (by decide) (Nat.le_of_ble_eq_true rfl) ?_
  refine pm_aload_n dX9_countsOfAll_0 rfl rfl ?_
  refine pm_ifnull dX9_countsOfAll_1 ?_
  refine pm_aload_n dX9_countsOfAll_4 rfl rfl ?_
  refine pm_ifnonnull (tgt := 10) dX9_countsOfAll_5 (by decide) ?_
  refine pm_lconst (v := 0) dX9_countsOfAll_10 (by decide) ?_
  refine pm_lstore (lv2 := [(7, _), (0, _), (1, _), (2, _), (4, _), (6, _)]) dX9_countsOfAll_11 (Nat.le_of_ble_eq_true rfl) rfl ?_
  refine pm_lload_n dX9_countsOfAll_13 rfl rfl ?_
  refine pm_lstore (lv2 := [(9, _), (7, _), (0, _), (1, _), (2, _), (4, _), (6, _)]) dX9_countsOfAll_14 (Nat.le_of_ble_eq_true rfl) rfl ?_
  refine pm_lload_n dX9_countsOfAll_16 rfl rfl ?_
  refine pm_callS (M2 := m_J13_bitCount_95d88) (As := [_]) ok_J13_bitCount_95d88 kw_750 kw_751 dX9_countsOfAll_17 rfl rfl (Nat.le_of_ble_eq_true rfl) ⟨⟨Nat.le_of_ble_eq_true rfl, Nat.le_of_ble_eq_true rfl⟩, Nat.le_of_ble_eq_true rfl, Nat.le_of_ble_eq_true rfl⟩ ?_
  refine c_LbitCount (by omega) ?_
  refine pm_istore (lv2 := [(11, _), (9, _), (7, _), (0, _), (1, _), (2, _), (4, _), (6, _)]) dX9_countsOfAll_20 (Nat.le_of_ble_eq_true rfl) rfl ?_
  refine pm_pick [0, 1, 2, 3, 4, 5, 6, 7] rfl ?_
  refine l2_CA hI hM1 hM2 hi hj hsi hsj esi esj (rh_c M1.testBit 64) 0 M1 0 (by show _ = 0 + _; omega) hM1 (fun b => by simp) (by decide) (fun C2 hC2 h2 => hQ C2 hC2 (fun v => ?_))
  rw [h2]
  exact ⟨fun q => q.elim (fun w => absurd w (by simp)) (fun ⟨x, y, _, b⟩ => ⟨x, y, b⟩), fun ⟨x, y, b⟩ => Or.inr ⟨x, y, Nat.zero_le _, b⟩⟩

set_option maxHeartbeats 600000 in
set_option maxRecDepth 100000 in
theorem c_X9_firstCount {l : Launch} {G : pm_G} {ad : Nat → Nat → Nat} {S : Nat → Nat} {A : Nat → Nat → Int32} {X : Nat → Int32} {Y : Nat → Nat → Int32} {F : Nat → Int64} {Hd Cs : Nat → Option Nat} {m : List pm_A} {Q : pm_T} {z : Nat} {i : Nat} (hI : th_I S A) (hi : i < S 11) (hQ : Q ad (some (.long (lN (2 ^ rs_w (th_n (A 9 i)))))) (rs_cz ad S A X Y F Hd Cs m (nI (rs_N z)))) : pm_C l G m_X9_firstCount [.ref (ad 2 i)] ad (rs_cz ad S A X Y F Hd Cs m (nI (rs_N z))) Q := by
  obtain ⟨-, -, -, ⟨c, hc, ec⟩, -⟩ := th_nk hI hi
  refine pm_met (by decide) (Nat.le_of_ble_eq_true rfl) ?_
  refine pm_aload_n dX9_firstCount_0 rfl rfl ?_
  refine pm_ifnonnull (tgt := 8) dX9_firstCount_1 (by decide) ?_
  refine pm_lconst (v := 1) dX9_firstCount_8 (by decide) ?_
  refine pm_bipush (v := 62) dX9_firstCount_9 (by decide) ?_
  refine pm_aload_n dX9_firstCount_11 rfl rfl ?_
  refine pm_get (fn_RX9_33 _) dX9_firstCount_12 (show pm_get? _ 2 i = _ from th_nt_get hi) rfl ?_
  rw [ec]
  refine pm_min kw_742 kw_372 kw_54 kw_373 (Nat.le_of_ble_eq_true rfl) (Nat.le_of_ble_eq_true rfl) (Nat.le_of_ble_eq_true rfl) (Nat.le_of_ble_eq_true rfl) dX9_firstCount_15 ?_
  refine pm_lshl dX9_firstCount_18 ?_
  rw [rs_minI (by omega), rb_one (rs_w c) (Nat.lt_succ_of_le (rs_wle c))]
  refine pm_lret dX9_firstCount_19 rfl rfl rfl ?_
  rw [ec, th_n_nI (by omega)] at hQ
  exact hQ

