theorem th_lt {x y : Int64} : lg_cmp x y < 0 ↔ x < y := by
  unfold lg_cmp
  by_cases h : y < x
  · rw [if_pos h]
    exact ⟨fun q => absurd q (by decide), fun q => absurd (Int64.lt_trans h q) Int64.lt_irrefl⟩
  · rw [if_neg h]
    by_cases h2 : x = y
    · rw [if_pos h2]
      exact ⟨fun q => absurd q (by decide), fun q => absurd (h2 ▸ q) Int64.lt_irrefl⟩
    · rw [if_neg h2]
      exact ⟨fun _ => Int64.lt_of_le_of_ne (Int64.not_lt.mp h) h2, fun _ => by decide⟩
theorem th_gt {x y : Int64} : 0 < lg_cmp x y ↔ y < x := by
  unfold lg_cmp
  by_cases h : y < x
  · rw [if_pos h]
    exact ⟨fun _ => h, fun _ => by decide⟩
  · rw [if_neg h]
    by_cases h2 : x = y
    · rw [if_pos h2]
      exact ⟨fun q => absurd q (by decide), fun q => absurd q h⟩
    · rw [if_neg h2]
      exact ⟨fun q => absurd q (by decide), fun q => absurd q h⟩
theorem th_eq {x y : Int64} : lg_cmp x y = 0 ↔ x = y := by
  unfold lg_cmp
  by_cases h : y < x
  · rw [if_pos h]
    exact ⟨fun q => absurd q (by decide), fun q => absurd (q ▸ h) Int64.lt_irrefl⟩
  · rw [if_neg h]
    by_cases h2 : x = y
    · rw [if_pos h2]
      exact ⟨fun _ => h2, fun _ => rfl⟩
    · rw [if_neg h2]
      exact ⟨fun q => absurd q (by decide), fun q => absurd q h2⟩
theorem th_le64 {x y : Int32} : x.toInt64 ≤ y.toInt64 ↔ x ≤ y := by
  rw [Int64.le_iff_toInt_le, Int32.le_iff_toInt_le]
  simp
set_option maxHeartbeats 600000 in
set_option maxRecDepth 100000 in
theorem c_X12_in {l : Launch} {G : pm_G} {ad : Nat → Nat → Nat} {w : pm_V} {Q : pm_T} {a b c : Int64} (h1 : b ≤ a → a ≤ c → Q ad (some (.int 1)) w) (h0 : ¬ (b ≤ a ∧ a ≤ c) → Q ad (some (.int 0)) w) : pm_C l G m_X12_in [.long a, .long b, .long c] ad w Q := by
  refine pm_met (by decide) (Nat.le_of_ble_eq_true rfl) ?_
  refine pm_lload_n dX12_in_0 rfl rfl ?_
  refine pm_lload_n dX12_in_1 rfl rfl ?_
  refine pm_lcmp dX12_in_2 ?_
  refine pm_if_lt (tgt := 17) dX12_in_3 (by decide) (fun c_3 => ?_) (fun c_3 => ?_)
  · refine pm_iconst (v := 0) dX12_in_17 (by decide) ?_
    refine pm_zret dX12_in_18 rfl rfl rfl rfl ?_
    exact h0 (fun q => absurd (th_lt.mp c_3) (Int64.not_lt.mpr q.1))
  · refine pm_lload_n dX12_in_6 rfl rfl ?_
    refine pm_lload dX12_in_7 rfl ?_
    refine pm_lcmp dX12_in_9 ?_
    refine pm_if_gt (tgt := 17) dX12_in_10 (by decide) (fun c_10 => ?_) (fun c_10 => ?_)
    · refine pm_iconst (v := 0) dX12_in_17 (by decide) ?_
      refine pm_zret dX12_in_18 rfl rfl rfl rfl ?_
      exact h0 (fun q => absurd (th_gt.mp c_10) (Int64.not_lt.mpr q.2))
    · refine pm_iconst (v := 1) dX12_in_13 (by decide) ?_
      refine pm_goto (tgt := 18) dX12_in_14 (by decide) ?_
      refine pm_zret dX12_in_18 rfl rfl rfl rfl ?_
      exact h1 (Int64.not_lt.mp (fun q => c_3 (th_lt.mpr q))) (Int64.not_lt.mp (fun q => c_10 (th_gt.mpr q)))

theorem c_X12_in32 {l : Launch} {G : pm_G} {ad : Nat → Nat → Nat} {w : pm_V} {Q : pm_T} {x lo hi : Int32} {L H : Int64} (hL : L = lo.toInt64) (hH : H = hi.toInt64) (h1 : lo ≤ x → x ≤ hi → Q ad (some (.int 1)) w) (h0 : ¬ (lo ≤ x ∧ x ≤ hi) → Q ad (some (.int 0)) w) : pm_C l G m_X12_in [.long x.toInt64, .long L, .long H] ad w Q := by
  subst hL
  subst hH
  exact c_X12_in (fun a b => h1 (th_le64.mp a) (th_le64.mp b)) (fun q => h0 (fun z => q ⟨th_le64.mpr z.1, th_le64.mpr z.2⟩))
/-- a number that names one of n things -/
def th_is (x : Int32) (n : Nat) : Prop := ∃ j, j < n ∧ x = nI j
theorem th_is_iff {x : Int32} {n : Nat} (hn : n < 2 ^ 30) : (0 ≤ x ∧ x ≤ nI n - 1) ↔ th_is x n := by
  constructor
  · intro h
    obtain ⟨j, hj, e⟩ := nI_of (Int32.not_lt.mpr h.1)
    refine ⟨j, ?_, e⟩
    have h2 := Int32.le_iff_toInt_le.mp h.2
    have h3 : (nI n - 1).toInt = (n : Int) - 1 := pk_sub_toInt (b := 1) hn (by decide)
    rw [h3, e, nI_toInt hj] at h2
    omega
  · rintro ⟨j, hj, rfl⟩
    refine ⟨nI_pos' (by omega), Int32.le_iff_toInt_le.mpr ?_⟩
    have h3 : (nI n - 1).toInt = (n : Int) - 1 := pk_sub_toInt (b := 1) hn (by decide)
    rw [h3, nI_toInt (by omega)]
    omega
set_option maxHeartbeats 600000 in
set_option maxRecDepth 100000 in
theorem c_X12_isSchool {l : Launch} {G : pm_G} {ad : Nat → Nat → Nat} {a0 a3 a4 a5 a6 a7 : List pm_A} {a1 a2 : Nat → Option pm_A} {S : Nat → Nat} {A : Nat → Nat → Int32} {s : Nat → Int32} {B : Nat → Nat → Int32} {hs : Int64} {Q : pm_T} {x : Int32} (hS : S 2 ≤ 3) (h1 : ∀ j, j < S 2 → x = nI j → Q ad (some (.int 1)) (a0, a1, a2, a3, a4, a5, a6, a7, th_mp ad S A s B hs)) (h0 : ¬ th_is x (S 2) → Q ad (some (.int 0)) (a0, a1, a2, a3, a4, a5, a6, a7, th_mp ad S A s B hs)) : pm_C l G m_X12_isSchool [.ref (ad 8 0), .int x] ad (a0, a1, a2, a3, a4, a5, a6, a7, th_mp ad S A s B hs) Q := by
  refine pm_met (by decide) (Nat.le_of_ble_eq_true rfl) ?_
  refine pm_iload_n dX12_isSchool_0 rfl rfl ?_
  refine pm_i2l dX12_isSchool_1 ?_
  refine pm_lconst (v := 0) dX12_isSchool_2 (by decide) ?_
  refine pm_aload_n dX12_isSchool_3 rfl rfl ?_
  refine pm_get fl_RX12_111_12 dX12_isSchool_4 rfl rfl ?_
  refine pm_iconst (v := 1) dX12_isSchool_7 (by decide) ?_
  refine pm_isub dX12_isSchool_8 ?_
  refine pm_i2l dX12_isSchool_9 ?_
  refine pm_callS (M2 := m_X12_in) (As := [_, _, _]) ok_X12_in kw_1115 kw_1116 dX12_isSchool_10 rfl rfl (Nat.le_of_ble_eq_true rfl) ⟨⟨Nat.le_of_ble_eq_true rfl, Nat.le_of_ble_eq_true rfl⟩, Nat.le_of_ble_eq_true rfl, Nat.le_of_ble_eq_true rfl⟩ ?_
  refine c_X12_in32 (lo := 0) (hi := nI (S 2) - 1) rfl rfl (fun u v => ?_) (fun u => ?_)
  · refine pm_zret dX12_isSchool_13 rfl rfl rfl rfl ?_
    obtain ⟨j, hj, e⟩ := (th_is_iff (by omega)).mp ⟨u, v⟩
    exact h1 j hj e
  · refine pm_zret dX12_isSchool_13 rfl rfl rfl rfl ?_
    exact h0 (fun z => u ((th_is_iff (by omega)).mpr z))

set_option maxHeartbeats 600000 in
set_option maxRecDepth 100000 in
theorem c_X12_isNut {l : Launch} {G : pm_G} {ad : Nat → Nat → Nat} {a0 a3 a4 a5 a6 a7 : List pm_A} {a1 a2 : Nat → Option pm_A} {S : Nat → Nat} {A : Nat → Nat → Int32} {s : Nat → Int32} {B : Nat → Nat → Int32} {hs : Int64} {Q : pm_T} {x : Int32} (hS : S 11 ≤ 8) (h1 : ∀ j, j < S 11 → x = nI j → Q ad (some (.int 1)) (a0, a1, a2, a3, a4, a5, a6, a7, th_mp ad S A s B hs)) (h0 : ¬ th_is x (S 11) → Q ad (some (.int 0)) (a0, a1, a2, a3, a4, a5, a6, a7, th_mp ad S A s B hs)) : pm_C l G m_X12_isNut [.ref (ad 8 0), .int x] ad (a0, a1, a2, a3, a4, a5, a6, a7, th_mp ad S A s B hs) Q := by
  refine pm_met (by decide) (Nat.le_of_ble_eq_true rfl) ?_
  refine pm_iload_n dX12_isNut_0 rfl rfl ?_
  refine pm_i2l dX12_isNut_1 ?_
  refine pm_lconst (v := 0) dX12_isNut_2 (by decide) ?_
  refine pm_aload_n dX12_isNut_3 rfl rfl ?_
  refine pm_get fl_RX12_137_12 dX12_isNut_4 rfl rfl ?_
  refine pm_iconst (v := 1) dX12_isNut_7 (by decide) ?_
  refine pm_isub dX12_isNut_8 ?_
  refine pm_i2l dX12_isNut_9 ?_
  refine pm_callS (M2 := m_X12_in) (As := [_, _, _]) ok_X12_in kw_1115 kw_1116 dX12_isNut_10 rfl rfl (Nat.le_of_ble_eq_true rfl) ⟨⟨Nat.le_of_ble_eq_true rfl, Nat.le_of_ble_eq_true rfl⟩, Nat.le_of_ble_eq_true rfl, Nat.le_of_ble_eq_true rfl⟩ ?_
  refine c_X12_in32 (lo := 0) (hi := nI (S 11) - 1) rfl rfl (fun u v => ?_) (fun u => ?_)
  · refine pm_zret dX12_isNut_13 rfl rfl rfl rfl ?_
    obtain ⟨j, hj, e⟩ := (th_is_iff (by omega)).mp ⟨u, v⟩
    exact h1 j hj e
  · refine pm_zret dX12_isNut_13 rfl rfl rfl rfl ?_
    exact h0 (fun z => u ((th_is_iff (by omega)).mpr z))

set_option maxHeartbeats 600000 in
set_option maxRecDepth 100000 in
theorem c_X12_isPair {l : Launch} {G : pm_G} {ad : Nat → Nat → Nat} {a0 a3 a4 a5 a6 a7 : List pm_A} {a1 a2 : Nat → Option pm_A} {S : Nat → Nat} {A : Nat → Nat → Int32} {s : Nat → Int32} {B : Nat → Nat → Int32} {hs : Int64} {Q : pm_T} {x y : Int32} (hS : S 11 ≤ 8) (h1 : ∀ i j, i < S 11 → j < S 11 → i ≠ j → x = nI i → y = nI j → Q ad (some (.int 1)) (a0, a1, a2, a3, a4, a5, a6, a7, th_mp ad S A s B hs)) (h0 : ¬ (th_is x (S 11) ∧ th_is y (S 11) ∧ x ≠ y) → Q ad (some (.int 0)) (a0, a1, a2, a3, a4, a5, a6, a7, th_mp ad S A s B hs)) : pm_C l G m_X12_isPair [.ref (ad 8 0), .int x, .int y] ad (a0, a1, a2, a3, a4, a5, a6, a7, th_mp ad S A s B hs) Q := by
  refine pm_met (by decide) (Nat.le_of_ble_eq_true rfl) ?_
  refine pm_aload_n dX12_isPair_0 rfl rfl ?_
  refine pm_iload_n dX12_isPair_1 rfl rfl ?_
  refine pm_callV (M2 := m_X12_isNut) (As := [_]) ok_X12_isNut (ci := 12) rfl kw_1154 kw_1156 kw_24 dX12_isPair_2 rfl rfl rfl (Nat.le_of_ble_eq_true rfl) ⟨⟨Nat.le_of_ble_eq_true rfl, Nat.le_of_ble_eq_true rfl⟩, Nat.le_of_ble_eq_true rfl, Nat.le_of_ble_eq_true rfl⟩ ?_
  refine c_X12_isNut hS (fun i hi ei => ?_) (fun hn => ?_)
  · refine pm_if_eq (tgt := 25) dX12_isPair_5 (by decide) (fun c_5 => absurd c_5 (by decide)) (fun c_5 => ?_)
    refine pm_aload_n dX12_isPair_8 rfl rfl ?_
    refine pm_iload_n dX12_isPair_9 rfl rfl ?_
    refine pm_callV (M2 := m_X12_isNut) (As := [_]) ok_X12_isNut (ci := 12) rfl kw_1154 kw_1156 kw_24 dX12_isPair_10 rfl rfl rfl (Nat.le_of_ble_eq_true rfl) ⟨⟨Nat.le_of_ble_eq_true rfl, Nat.le_of_ble_eq_true rfl⟩, Nat.le_of_ble_eq_true rfl, Nat.le_of_ble_eq_true rfl⟩ ?_
    refine c_X12_isNut hS (fun j hj ej => ?_) (fun hn => ?_)
    · refine pm_if_eq (tgt := 25) dX12_isPair_13 (by decide) (fun c_13 => absurd c_13 (by decide)) (fun c_13 => ?_)
      refine pm_iload_n dX12_isPair_16 rfl rfl ?_
      refine pm_iload_n dX12_isPair_17 rfl rfl ?_
      refine pm_icmp_eq (tgt := 25) dX12_isPair_18 (by decide) (fun c_18 => ?_) (fun c_18 => ?_)
      · refine pm_iconst (v := 0) dX12_isPair_25 (by decide) ?_
        refine pm_zret dX12_isPair_26 rfl rfl rfl rfl ?_
        exact h0 (fun z => z.2.2 c_18)
      · refine pm_iconst (v := 1) dX12_isPair_21 (by decide) ?_
        refine pm_goto (tgt := 26) dX12_isPair_22 (by decide) ?_
        refine pm_zret dX12_isPair_26 rfl rfl rfl rfl ?_
        exact h1 i j hi hj (fun e => c_18 (by rw [ei, ej, e])) ei ej
    · refine pm_if_eq (tgt := 25) dX12_isPair_13 (by decide) (fun c_13 => ?_) (fun c_13 => absurd (rfl) c_13)
      refine pm_iconst (v := 0) dX12_isPair_25 (by decide) ?_
      refine pm_zret dX12_isPair_26 rfl rfl rfl rfl ?_
      exact h0 (fun z => hn z.2.1)
  · refine pm_if_eq (tgt := 25) dX12_isPair_5 (by decide) (fun c_5 => ?_) (fun c_5 => absurd (rfl) c_5)
    refine pm_iconst (v := 0) dX12_isPair_25 (by decide) ?_
    refine pm_zret dX12_isPair_26 rfl rfl rfl rfl ?_
    exact h0 (fun z => hn z.1)

set_option maxHeartbeats 600000 in
set_option maxRecDepth 100000 in
theorem c_X12_isPart {l : Launch} {G : pm_G} {ad : Nat → Nat → Nat} {w : pm_V} {Q : pm_T} {x : Int32} (h1 : 0 ≤ x → x ≤ 1 → Q ad (some (.int 1)) w) (h0 : ¬ (0 ≤ x ∧ x ≤ 1) → Q ad (some (.int 0)) w) : pm_C l G m_X12_isPart [.int x] ad w Q := by
  refine pm_met (by decide) (Nat.le_of_ble_eq_true rfl) ?_
  refine pm_iload_n dX12_isPart_0 rfl rfl ?_
  refine pm_i2l dX12_isPart_1 ?_
  refine pm_lconst (v := 0) dX12_isPart_2 (by decide) ?_
  refine pm_lconst (v := 1) dX12_isPart_3 (by decide) ?_
  refine pm_callS (M2 := m_X12_in) (As := [_, _, _]) ok_X12_in kw_1115 kw_1116 dX12_isPart_4 rfl rfl (Nat.le_of_ble_eq_true rfl) ⟨⟨Nat.le_of_ble_eq_true rfl, Nat.le_of_ble_eq_true rfl⟩, Nat.le_of_ble_eq_true rfl, Nat.le_of_ble_eq_true rfl⟩ ?_
  refine c_X12_in32 (lo := 0) (hi := 1) rfl rfl (fun u v => ?_) (fun u => ?_)
  · refine pm_zret dX12_isPart_7 rfl rfl rfl rfl ?_
    exact h1 u v
  · refine pm_zret dX12_isPart_7 rfl rfl rfl rfl ?_
    exact h0 u

set_option maxHeartbeats 600000 in
set_option maxRecDepth 100000 in
theorem c_X11_isOutside {l : Launch} {G : pm_G} {ad : Nat → Nat → Nat} {w : pm_V} {Q : pm_T} {x a b : Int32} (h1 : ¬ (a ≤ x ∧ x ≤ b) → Q ad (some (.int 1)) w) (h0 : a ≤ x → x ≤ b → Q ad (some (.int 0)) w) : pm_C l G m_X11_isOutside [.int x, .int a, .int b] ad w Q := by
  refine pm_met (by decide) (Nat.le_of_ble_eq_true rfl) ?_
  refine pm_iload_n dX11_isOutside_0 rfl rfl ?_
  refine pm_iload_n dX11_isOutside_1 rfl rfl ?_
  refine pm_icmp_lt (tgt := 10) dX11_isOutside_2 (by decide) (fun c_2 => ?_) (fun c_2 => ?_)
  · refine pm_iconst (v := 1) dX11_isOutside_10 (by decide) ?_
    refine pm_goto (tgt := 15) dX11_isOutside_11 (by decide) ?_
    refine pm_zret dX11_isOutside_15 rfl rfl rfl rfl ?_
    exact h1 (fun z => absurd c_2 (Int32.not_lt.mpr z.1))
  · refine pm_iload_n dX11_isOutside_5 rfl rfl ?_
    refine pm_iload_n dX11_isOutside_6 rfl rfl ?_
    refine pm_icmp_le (tgt := 14) dX11_isOutside_7 (by decide) (fun c_7 => ?_) (fun c_7 => ?_)
    · refine pm_iconst (v := 0) dX11_isOutside_14 (by decide) ?_
      refine pm_zret dX11_isOutside_15 rfl rfl rfl rfl ?_
      exact h0 (Int32.not_lt.mp c_2) c_7
    · refine pm_iconst (v := 1) dX11_isOutside_10 (by decide) ?_
      refine pm_goto (tgt := 15) dX11_isOutside_11 (by decide) ?_
      refine pm_zret dX11_isOutside_15 rfl rfl rfl rfl ?_
      exact h1 (fun z => c_7 z.2)

set_option maxHeartbeats 600000 in
set_option maxRecDepth 100000 in
theorem c_X11_schoolOf {l : Launch} {G : pm_G} {ad : Nat → Nat → Nat} {a3 a4 a5 a6 a7 a8 : List pm_A} {a1 a2 : Nat → Option pm_A} {S : Nat → Nat} {Y : Nat → Nat → Int32} {Q : pm_T} {x : Int32} (hS : S 2 ≤ 3) (h1 : ∀ j, j < S 2 → x = nI j → Q ad (some (.ref (ad 1 j))) (th_g0 ad S Y, a1, a2, a3, a4, a5, a6, a7, a8)) (h0 : ¬ th_is x (S 2) → Q ad (some .null) (th_g0 ad S Y, a1, a2, a3, a4, a5, a6, a7, a8)) : pm_C l G m_X11_schoolOf [.ref (ad 0 0), .int x] ad (th_g0 ad S Y, a1, a2, a3, a4, a5, a6, a7, a8) Q := by
  refine pm_met (by decide) (Nat.le_of_ble_eq_true rfl) ?_
  refine pm_iload_n dX11_schoolOf_0 rfl rfl ?_
  refine pm_iconst (v := 0) dX11_schoolOf_1 (by decide) ?_
  refine pm_aload_n dX11_schoolOf_2 rfl rfl ?_
  refine pm_get fl_RX11_18_11 dX11_schoolOf_3 rfl rfl ?_
  refine pm_alen (by decide) dX11_schoolOf_6 rfl ?_
  refine pm_iconst (v := 1) dX11_schoolOf_7 (by decide) ?_
  refine pm_isub dX11_schoolOf_8 ?_
  refine pm_callS (M2 := m_X11_isOutside) (As := [_, _, _]) ok_X11_isOutside kw_361 kw_362 dX11_schoolOf_9 rfl rfl (Nat.le_of_ble_eq_true rfl) ⟨⟨Nat.le_of_ble_eq_true rfl, Nat.le_of_ble_eq_true rfl⟩, Nat.le_of_ble_eq_true rfl, Nat.le_of_ble_eq_true rfl⟩ ?_
  refine c_X11_isOutside (fun u => ?_) (fun u v => ?_)
  · refine pm_if_eq (tgt := 19) dX11_schoolOf_12 (by decide) (fun c_12 => absurd c_12 (by decide)) (fun c_12 => ?_)
    refine pm_aconst_null dX11_schoolOf_15 ?_
    refine pm_goto (tgt := 25) dX11_schoolOf_16 (by decide) ?_
    refine pm_aret dX11_schoolOf_25 rfl (Or.inl rfl) rfl rfl ?_
    refine h0 (fun ⟨j, hj, e⟩ => u ((th_is_iff (n := 3) (by decide)).mpr ⟨j, Nat.lt_of_lt_of_le hj hS, e⟩))
  · refine pm_if_eq (tgt := 19) dX11_schoolOf_12 (by decide) (fun c_12 => ?_) (fun c_12 => absurd (rfl) c_12)
    refine pm_aload_n dX11_schoolOf_19 rfl rfl ?_
    refine pm_get fl_RX11_18_11 dX11_schoolOf_20 rfl rfl ?_
    refine pm_iload_n dX11_schoolOf_23 rfl rfl ?_
    obtain ⟨j, hj, rfl⟩ := (th_is_iff (n := 3) (by decide)).mp ⟨u, v⟩
    refine pm_aaldS dX11_schoolOf_24 rfl (th_in hj (by decide)) ?_
    rw [th_cl (by omega)]
    unfold th_rs
    by_cases hlt : j < S 2
    · rw [if_pos hlt]
      show pm_W _ _ _ _ _ _ (.ref (ad 1 j) :: _) _ _ _ _
      refine pm_aret dX11_schoolOf_25 rfl (Or.inr ⟨_, rfl⟩) rfl rfl ?_
      exact h1 j hlt rfl
    · rw [if_neg hlt]
      show pm_W _ _ _ _ _ _ (.null :: _) _ _ _ _
      refine pm_aret dX11_schoolOf_25 rfl (Or.inl rfl) rfl rfl ?_
      exact h0 (fun ⟨i, hi, e⟩ => hlt (by rw [(nI_eq (by omega) (by omega)).mp e]; exact hi))

set_option maxHeartbeats 600000 in
set_option maxRecDepth 100000 in
theorem c_X11_nutOf {l : Launch} {G : pm_G} {ad : Nat → Nat → Nat} {a3 a4 a5 a6 a7 a8 : List pm_A} {a1 a2 : Nat → Option pm_A} {S : Nat → Nat} {Y : Nat → Nat → Int32} {Q : pm_T} {x : Int32} (hS : S 11 ≤ 8) (h1 : ∀ j, j < S 11 → x = nI j → Q ad (some (.ref (ad 2 j))) (th_g0 ad S Y, a1, a2, a3, a4, a5, a6, a7, a8)) (h0 : ¬ th_is x (S 11) → Q ad (some .null) (th_g0 ad S Y, a1, a2, a3, a4, a5, a6, a7, a8)) : pm_C l G m_X11_nutOf [.ref (ad 0 0), .int x] ad (th_g0 ad S Y, a1, a2, a3, a4, a5, a6, a7, a8) Q := by
  refine pm_met (by decide) (Nat.le_of_ble_eq_true rfl) ?_
  refine pm_iload_n dX11_nutOf_0 rfl rfl ?_
  refine pm_iconst (v := 0) dX11_nutOf_1 (by decide) ?_
  refine pm_aload_n dX11_nutOf_2 rfl rfl ?_
  refine pm_get fl_RX11_24_11 dX11_nutOf_3 rfl rfl ?_
  refine pm_alen (by decide) dX11_nutOf_6 rfl ?_
  refine pm_iconst (v := 1) dX11_nutOf_7 (by decide) ?_
  refine pm_isub dX11_nutOf_8 ?_
  refine pm_callS (M2 := m_X11_isOutside) (As := [_, _, _]) ok_X11_isOutside kw_361 kw_362 dX11_nutOf_9 rfl rfl (Nat.le_of_ble_eq_true rfl) ⟨⟨Nat.le_of_ble_eq_true rfl, Nat.le_of_ble_eq_true rfl⟩, Nat.le_of_ble_eq_true rfl, Nat.le_of_ble_eq_true rfl⟩ ?_
  refine c_X11_isOutside (fun u => ?_) (fun u v => ?_)
  · refine pm_if_eq (tgt := 19) dX11_nutOf_12 (by decide) (fun c_12 => absurd c_12 (by decide)) (fun c_12 => ?_)
    refine pm_aconst_null dX11_nutOf_15 ?_
    refine pm_goto (tgt := 25) dX11_nutOf_16 (by decide) ?_
    refine pm_aret dX11_nutOf_25 rfl (Or.inl rfl) rfl rfl ?_
    refine h0 (fun ⟨j, hj, e⟩ => u ((th_is_iff (n := 8) (by decide)).mpr ⟨j, Nat.lt_of_lt_of_le hj hS, e⟩))
  · refine pm_if_eq (tgt := 19) dX11_nutOf_12 (by decide) (fun c_12 => ?_) (fun c_12 => absurd (rfl) c_12)
    refine pm_aload_n dX11_nutOf_19 rfl rfl ?_
    refine pm_get fl_RX11_24_11 dX11_nutOf_20 rfl rfl ?_
    refine pm_iload_n dX11_nutOf_23 rfl rfl ?_
    obtain ⟨j, hj, rfl⟩ := (th_is_iff (n := 8) (by decide)).mp ⟨u, v⟩
    refine pm_aaldN dX11_nutOf_24 rfl (th_in hj (by decide)) ?_
    rw [th_cl (by omega)]
    unfold th_rs
    by_cases hlt : j < S 11
    · rw [if_pos hlt]
      show pm_W _ _ _ _ _ _ (.ref (ad 2 j) :: _) _ _ _ _
      refine pm_aret dX11_nutOf_25 rfl (Or.inr ⟨_, rfl⟩) rfl rfl ?_
      exact h1 j hlt rfl
    · rw [if_neg hlt]
      show pm_W _ _ _ _ _ _ (.null :: _) _ _ _ _
      refine pm_aret dX11_nutOf_25 rfl (Or.inl rfl) rfl rfl ?_
      exact h0 (fun ⟨i, hi, e⟩ => hlt (by rw [(nI_eq (by omega) (by omega)).mp e]; exact hi))

set_option maxHeartbeats 600000 in
set_option maxRecDepth 100000 in
theorem c_X12_hard {l : Launch} {G : pm_G} {ad : Nat → Nat → Nat} {a0 a3 a4 a5 a6 a7 : List pm_A} {a1 a2 : Nat → Option pm_A} {S : Nat → Nat} {A : Nat → Nat → Int32} {s : Nat → Int32} {B : Nat → Nat → Int32} {hs : Int64} {Q : pm_T} {i kd : Nat} (hi : i < 8) (hk : kd ≤ 4) (he : A 6 i = nI kd) (hQ : Q ad (some (.int (pm_hd kd (A 8 i)))) (a0, a1, a2, a3, a4, a5, a6, a7, th_mp ad S A s B hs)) : pm_C l G m_X12_hard [.ref (ad 8 0), .int (nI i)] ad (a0, a1, a2, a3, a4, a5, a6, a7, th_mp ad S A s B hs) Q := by
  refine pm_met (by decide) (Nat.le_of_ble_eq_true rfl) ?_
  refine pm_aload_n dX12_hard_0 rfl rfl ?_
  refine pm_get fl_RX12_25_12 dX12_hard_1 rfl rfl ?_
  refine pm_iload_n dX12_hard_4 rfl rfl ?_
  refine pm_iald dX12_hard_5 rfl (th_in hi (by decide)) ?_
  rw [th_cl (by omega), he]
  refine pm_istore_n (lv2 := [(2, _), (0, _), (1, _)]) dX12_hard_6 rfl (Nat.le_of_ble_eq_true rfl) rfl ?_
  refine pm_iload_n dX12_hard_7 rfl rfl ?_
  refine pm_iconst (v := 4) dX12_hard_8 (by decide) ?_
  refine pm_icmp_ne (tgt := 16) dX12_hard_9 (by decide) (fun c_9 => ?_) (fun c_9 => ?_)
  · refine pm_aload_n dX12_hard_16 rfl rfl ?_
    refine pm_get fl_RX12_31_12 dX12_hard_17 rfl rfl ?_
    refine pm_iload_n dX12_hard_20 rfl rfl ?_
    refine pm_iald dX12_hard_21 rfl (th_in hi (by decide)) ?_
    rw [th_cl (by omega)]
    refine pm_iload_n dX12_hard_22 rfl rfl ?_
    refine pm_iadd dX12_hard_23 ?_
    refine pm_iret dX12_hard_24 rfl rfl rfl ?_
    refine th_r ?_ hQ
    match kd, hk, c_9 with
    | 0, _, _ => exact (Int32.add_zero _).symm
    | 1, _, _ => exact rfl
    | 2, _, _ => exact rfl
    | 3, _, _ => exact rfl
    | 4, _, h => exact absurd rfl h
  · refine pm_iconst (v := 0) dX12_hard_12 (by decide) ?_
    refine pm_goto (tgt := 24) dX12_hard_13 (by decide) ?_
    refine pm_iret dX12_hard_24 rfl rfl rfl ?_
    have e : kd = 4 := (nI_eq (b := 4) (by omega) (by decide)).mp c_9
    subst e
    exact hQ

