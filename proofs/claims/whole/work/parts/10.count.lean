def th_wo (t x y : Int32) : Int32 := if t < 0 then (if -t = 120 then x else if -t = 121 then y else if -t = 109 then (if x ≤ y then y else x) else if -t = 108 then (if y ≤ x then y else x) else y / 2) else t
def th_sum (f : Nat → Int32) (x y : Int32) : Nat → Int32
  | 0 => 0
  | k + 1 => th_sum f x y k + th_wo (f k) x y
def th_ca (A : Nat → Nat → Int32) (j : Nat) (x y : Int32) : Int32 := if th_sum (th_tf A j) x y (th_n (A 3 j)) < 999 then th_sum (th_tf A j) x y (th_n (A 3 j)) else 999
def th_meet (A : Nat → Nat → Int32) (how : Nat) (a b : Nat) (x y : Int32) : Int32 := if how < 2 then (if how = 0 then th_ca A a x y else th_ca A b x y) else if how = 2 then (if th_ca A b x y < th_ca A a x y then th_ca A a x y else th_ca A b x y) else (if th_ca A a x y < th_ca A b x y then th_ca A a x y else th_ca A b x y)
/-- the Schools that there are: at most three, of at most four terms that are numbers or letters -/
def th_I2 (S : Nat → Nat) (A : Nat → Nat → Int32) : Prop := S 2 ≤ 3 ∧ ∀ j, j < S 2 → ∃ n, n ≤ 4 ∧ A 3 j = nI n ∧ ∀ k, k < n → (∃ v : Nat, v ≤ 99 ∧ A 2 (4 * j + k) = nI v) ∨ A 2 (4 * j + k) = -120 ∨ A 2 (4 * j + k) = -121 ∨ A 2 (4 * j + k) = -109 ∨ A 2 (4 * j + k) = -108 ∨ A 2 (4 * j + k) = -104
set_option maxHeartbeats 600000 in
set_option maxRecDepth 100000 in
theorem c_X12_worthOf {l : Launch} {G : pm_G} {ad : Nat → Nat → Nat} {w : pm_V} {t x y : Int32} {Q : pm_T} (hQ : Q ad (some (.int (th_wo t x y))) w) : pm_C l G m_X12_worthOf [.int t, .int x, .int y] ad w Q := by
  refine pm_met (by decide) (Nat.le_of_ble_eq_true rfl) ?_
  refine pm_iload_n dX12_worthOf_0 rfl rfl ?_
  refine pm_if_lt (tgt := 6) dX12_worthOf_1 (by decide) (fun c_1 => ?_) (fun c_1 => ?_)
  · refine pm_iload_n dX12_worthOf_6 rfl rfl ?_
    refine pm_ineg dX12_worthOf_7 ?_
    by_cases s_8_108 : (-t) = 108
    · refine pm_lookup (off := 59) (tgt := 67) dX12_worthOf_8 (by decide) (by rw [s_8_108]; decide) (by decide) ?_
      refine pm_iload_n dX12_worthOf_67 rfl rfl ?_
      refine pm_iload_n dX12_worthOf_68 rfl rfl ?_
      refine pm_icmp_ge (tgt := 76) dX12_worthOf_69 (by decide) (fun c_69 => ?_) (fun c_69 => ?_)
      · refine pm_iload_n dX12_worthOf_76 rfl rfl ?_
        refine pm_iret dX12_worthOf_77 rfl rfl rfl ?_
        simpa [th_wo, c_1, s_8_108, c_69] using hQ
      · refine pm_iload_n dX12_worthOf_72 rfl rfl ?_
        refine pm_goto (tgt := 77) dX12_worthOf_73 (by decide) ?_
        refine pm_iret dX12_worthOf_77 rfl rfl rfl ?_
        simpa [th_wo, c_1, s_8_108, c_69] using hQ
    · skip
      by_cases s_8_109 : (-t) = 109
      · refine pm_lookup (off := 48) (tgt := 56) dX12_worthOf_8 (by decide) (by rw [s_8_109]; decide) (by decide) ?_
        refine pm_iload_n dX12_worthOf_56 rfl rfl ?_
        refine pm_iload_n dX12_worthOf_57 rfl rfl ?_
        refine pm_icmp_le (tgt := 65) dX12_worthOf_58 (by decide) (fun c_58 => ?_) (fun c_58 => ?_)
        · refine pm_iload_n dX12_worthOf_65 rfl rfl ?_
          refine pm_iret dX12_worthOf_66 rfl rfl rfl ?_
          simpa [th_wo, c_1, s_8_108, s_8_109, c_58] using hQ
        · refine pm_iload_n dX12_worthOf_61 rfl rfl ?_
          refine pm_goto (tgt := 66) dX12_worthOf_62 (by decide) ?_
          refine pm_iret dX12_worthOf_66 rfl rfl rfl ?_
          simpa [th_wo, c_1, s_8_108, s_8_109, c_58] using hQ
      · skip
        by_cases s_8_120 : (-t) = 120
        · refine pm_lookup (off := 44) (tgt := 52) dX12_worthOf_8 (by decide) (by rw [s_8_120]; decide) (by decide) ?_
          refine pm_iload_n dX12_worthOf_52 rfl rfl ?_
          refine pm_iret dX12_worthOf_53 rfl rfl rfl ?_
          simpa [th_wo, c_1, s_8_108, s_8_109, s_8_120] using hQ
        · skip
          by_cases s_8_121 : (-t) = 121
          · refine pm_lookup (off := 46) (tgt := 54) dX12_worthOf_8 (by decide) (by rw [s_8_121]; decide) (by decide) ?_
            refine pm_iload_n dX12_worthOf_54 rfl rfl ?_
            refine pm_iret dX12_worthOf_55 rfl rfl rfl ?_
            simpa [th_wo, c_1, s_8_108, s_8_109, s_8_120, s_8_121] using hQ
          · skip
            refine pm_lookup (off := 70) (tgt := 78) dX12_worthOf_8 (by decide) (by have q108 := th_ne s_8_108 (z := 108) (by decide); have q109 := th_ne s_8_109 (z := 109) (by decide); have q120 := th_ne s_8_120 (z := 120) (by decide); have q121 := th_ne s_8_121 (z := 121) (by decide); generalize Int32.toInt (-t) = z at q108 q109 q120 q121 ⊢; simp [Op.lookupswitch.offset, Ne.symm q108, Ne.symm q109, Ne.symm q120, Ne.symm q121]) (by decide) ?_
            refine pm_iload_n dX12_worthOf_78 rfl rfl ?_
            refine pm_iconst (v := 2) dX12_worthOf_79 (by decide) ?_
            refine pm_idiv dX12_worthOf_80 (by decide) ?_
            refine pm_iret dX12_worthOf_81 rfl rfl rfl ?_
            simpa [th_wo, c_1, s_8_108, s_8_109, s_8_120, s_8_121] using hQ
  · refine pm_iload_n dX12_worthOf_4 rfl rfl ?_
    refine pm_iret dX12_worthOf_5 rfl rfl rfl ?_
    simpa [th_wo, c_1] using hQ

set_option maxHeartbeats 600000 in
set_option maxRecDepth 100000 in
theorem c_X12_countsOf {l : Launch} {G : pm_G} {ad : Nat → Nat → Nat} {a0 a3 a4 a5 a6 a7 : List pm_A} {a1 a2 : Nat → Option pm_A} {S : Nat → Nat} {A : Nat → Nat → Int32} {s : Nat → Int32} {B : Nat → Nat → Int32} {hs : Int64} {Q : pm_T} {j : Nat} {x y : Int32} (hI : th_I2 S A) (hj : j < S 2) (hQ : Q ad (some (.int (th_ca A j x y))) (a0, a1, a2, a3, a4, a5, a6, a7, th_mp ad S A s B hs)) : pm_C l G m_X12_countsOf [.ref (ad 8 0), .int (nI j), .int x, .int y] ad (a0, a1, a2, a3, a4, a5, a6, a7, th_mp ad S A s B hs) Q := by
  have h3 : j < 3 := Nat.lt_of_lt_of_le hj hI.1
  obtain ⟨n, hn, he, -⟩ := hI.2 j hj
  refine pm_met (by decide) (Nat.le_of_ble_eq_true rfl) ?_
  refine pm_iconst (v := 0) dX12_countsOf_0 (by decide) ?_
  refine pm_istore (lv2 := [(4, _), (0, _), (1, _), (2, _), (3, _)]) dX12_countsOf_1 (Nat.le_of_ble_eq_true rfl) rfl ?_
  refine pm_iconst (v := 0) dX12_countsOf_3 (by decide) ?_
  refine pm_istore (lv2 := [(5, _), (4, _), (0, _), (1, _), (2, _), (3, _)]) dX12_countsOf_4 (Nat.le_of_ble_eq_true rfl) rfl ?_
  suffices H : ∀ i, i ≤ n → pm_W l G m_X12_countsOf ad 6 [(5, .int (nI i)), (4, .int (th_sum (th_tf A j) x y i)), (0, .ref (ad 8 0)), (1, .int (nI j)), (2, .int x), (3, .int y)] [] (a0, a1, a2, a3, a4, a5, a6, a7, th_mp ad S A s B hs) 0 0 Q from H 0 (Nat.zero_le _)
  refine th_loop _ ?_
  intro i hi k
  refine pm_iload dX12_countsOf_6 rfl ?_
  refine pm_aload_n dX12_countsOf_8 rfl rfl ?_
  refine pm_get fl_RX12_16_12 dX12_countsOf_9 rfl rfl ?_
  refine pm_iload_n dX12_countsOf_12 rfl rfl ?_
  refine pm_iald dX12_countsOf_13 rfl (th_in h3 (by decide)) ?_
  rw [th_cl (by omega), he]
  refine pm_icmp_ge (tgt := 44) dX12_countsOf_14 (by decide) (fun c_14 => ?_) (fun c_14 => ?_)
  · have hin : i = n := by
      rw [nI_leI (by omega) (by omega)] at c_14
      omega
    subst hin
    refine pm_iload dX12_countsOf_44 rfl ?_
    refine pm_sipush (v := 999) dX12_countsOf_46 (by decide) ?_
    refine pm_icmp_ge (tgt := 57) dX12_countsOf_49 (by decide) (fun c_49 => ?_) (fun c_49 => ?_)
    · refine pm_sipush (v := 999) dX12_countsOf_57 (by decide) ?_
      refine pm_iret dX12_countsOf_60 rfl rfl rfl ?_
      simpa [th_ca, he, th_n_nI (show i < 2 ^ 31 by omega), ← Int32.not_le, c_14, c_49] using hQ
    · refine pm_iload dX12_countsOf_52 rfl ?_
      refine pm_goto (tgt := 60) dX12_countsOf_54 (by decide) ?_
      refine pm_iret dX12_countsOf_60 rfl rfl rfl ?_
      simpa [th_ca, he, th_n_nI (show i < 2 ^ 31 by omega), ← Int32.not_le, c_14, c_49] using hQ
  · have hlt : i < n := by
      rw [nI_leI (by omega) (by omega)] at c_14
      omega
    refine pm_iload dX12_countsOf_17 rfl ?_
    refine pm_aload_n dX12_countsOf_19 rfl rfl ?_
    refine pm_get fl_RX12_13_12 dX12_countsOf_20 rfl rfl ?_
    refine pm_iconst (v := 4) dX12_countsOf_23 (by decide) ?_
    refine pm_iload_n dX12_countsOf_24 rfl rfl ?_
    refine pm_imul dX12_countsOf_25 ?_
    refine pm_iload dX12_countsOf_26 rfl ?_
    refine pm_iadd dX12_countsOf_28 ?_
    rw [show (4 : Int32) = nI 4 from rfl, pk_mul, nI_add]
    refine pm_iald dX12_countsOf_29 rfl (th_in (by omega) (by decide)) ?_
    refine pm_iload_n dX12_countsOf_30 rfl rfl ?_
    refine pm_iload_n dX12_countsOf_31 rfl rfl ?_
    rw [th_cl (by omega)]
    refine pm_callS (M2 := m_X12_worthOf) (As := [_, _, _]) ok_X12_worthOf kw_1135 kw_1136 dX12_countsOf_32 rfl rfl (Nat.le_of_ble_eq_true rfl) ⟨⟨Nat.le_of_ble_eq_true rfl, Nat.le_of_ble_eq_true rfl⟩, Nat.le_of_ble_eq_true rfl, Nat.le_of_ble_eq_true rfl⟩ ?_
    refine c_X12_worthOf ?_
    refine pm_iadd dX12_countsOf_35 ?_
    refine pm_istore (lv2 := [(4, _), (5, _), (0, _), (1, _), (2, _), (3, _)]) dX12_countsOf_36 (Nat.le_of_ble_eq_true rfl) rfl ?_
    refine pm_iinc (lv2 := [(5, _), (4, _), (0, _), (1, _), (2, _), (3, _)]) dX12_countsOf_38 rfl (nI_1 i) (Nat.le_of_ble_eq_true rfl) rfl ?_
    refine pm_goto (tgt := 6) dX12_countsOf_41 (by decide) ?_
    exact k hlt

theorem th_4 {n : Nat} (h : n ≤ 3) : n = 0 ∨ n = 1 ∨ n = 2 ∨ n = 3 := by omega
theorem th_r {Q : pm_T} {ad : Nat → Nat → Nat} {w : pm_V} {a b : Int32} (h : a = b) (hQ : Q ad (some (.int a)) w) : Q ad (some (.int b)) w := h ▸ hQ
theorem th_rl {Q : pm_T} {ad : Nat → Nat → Nat} {w : pm_V} {a b : Int64} (h : a = b) (hQ : Q ad (some (.long a)) w) : Q ad (some (.long b)) w := h ▸ hQ
theorem th_nn {n m : Nat} (hn : n < 2 ^ 31) (hm : m < 2 ^ 31) : nI n = nI m ↔ n = m := nI_eq hn hm
theorem th_mm (a b : Int32) : (if b < a then a else b) = (if a < b then b else a) := by
  by_cases h : a < b
  · rw [if_pos h, if_neg (fun q => Int32.lt_irrefl (Int32.lt_trans q h))]
  · by_cases h2 : b < a
    · rw [if_neg h, if_pos h2]
    · rw [if_neg h, if_neg h2]
      exact Int32.le_antisymm (Int32.not_lt.mp h) (Int32.not_lt.mp h2)
theorem th_mn (a b : Int32) : (if a < b then a else b) = (if b < a then b else a) := by
  by_cases h : a < b
  · rw [if_pos h, if_neg (fun q => Int32.lt_irrefl (Int32.lt_trans q h))]
  · by_cases h2 : b < a
    · rw [if_neg h, if_pos h2]
    · rw [if_neg h, if_neg h2]
      exact Int32.le_antisymm (Int32.not_lt.mp h) (Int32.not_lt.mp h2)
theorem th_m0 {A : Nat → Nat → Int32} {how a b : Nat} {x y : Int32} (h : how = 0) : th_meet A how a b x y = th_ca A a x y := by
  subst h; rfl
theorem th_m1 {A : Nat → Nat → Int32} {how a b : Nat} {x y : Int32} (h : how = 1) : th_meet A how a b x y = th_ca A b x y := by
  subst h; rfl
theorem th_m2 {A : Nat → Nat → Int32} {how a b : Nat} {x y : Int32} (h : how = 2) : th_meet A how a b x y = if th_ca A b x y < th_ca A a x y then th_ca A a x y else th_ca A b x y := by
  subst h
  unfold th_meet
  rw [if_neg (by decide), if_pos rfl]
theorem th_m3 {A : Nat → Nat → Int32} {how a b : Nat} {x y : Int32} (h : how = 3) : th_meet A how a b x y = if th_ca A a x y < th_ca A b x y then th_ca A a x y else th_ca A b x y := by
  subst h
  unfold th_meet
  rw [if_neg (by decide), if_neg (by decide)]
theorem th_msame {A : Nat → Nat → Int32} {how a : Nat} {x y : Int32} : th_meet A how a a x y = th_ca A a x y := by
  simp [th_meet]
theorem th_l0 : nI 0 = 0 := rfl
theorem th_l1 : nI 1 = 1 := rfl
theorem th_l2 : nI 2 = 2 := rfl
theorem th_l3 : nI 3 = 3 := rfl
set_option maxHeartbeats 600000 in
set_option maxRecDepth 100000 in
theorem c_X12_meet {l : Launch} {G : pm_G} {ad : Nat → Nat → Nat} {a0 a3 a4 a5 a6 a7 : List pm_A} {a1 a2 : Nat → Option pm_A} {S : Nat → Nat} {A : Nat → Nat → Int32} {s : Nat → Int32} {B : Nat → Nat → Int32} {hs : Int64} {Q : pm_T} {a b : Nat} {x y : Int32} (hI : th_I2 S A) (ha : a < S 2) (hb : b < S 2) (h6 : S 6 ≤ 3) (hQ : Q ad (some (.int (th_meet A (S 6) a b x y))) (a0, a1, a2, a3, a4, a5, a6, a7, th_mp ad S A s B hs)) : pm_C l G m_X12_meet [.ref (ad 8 0), .int (nI a), .int (nI b), .int x, .int y] ad (a0, a1, a2, a3, a4, a5, a6, a7, th_mp ad S A s B hs) Q := by
  refine pm_met (by decide) (Nat.le_of_ble_eq_true rfl) ?_
  refine pm_aload_n dX12_meet_0 rfl rfl ?_
  refine pm_iload_n dX12_meet_1 rfl rfl ?_
  refine pm_iload_n dX12_meet_2 rfl rfl ?_
  refine pm_iload dX12_meet_3 rfl ?_
  refine pm_callV (M2 := m_X12_countsOf) (As := [_, _, _]) ok_X12_countsOf (ci := 12) rfl kw_1131 kw_1133 kw_23 dX12_meet_5 rfl rfl rfl (Nat.le_of_ble_eq_true rfl) ⟨⟨Nat.le_of_ble_eq_true rfl, Nat.le_of_ble_eq_true rfl⟩, Nat.le_of_ble_eq_true rfl, Nat.le_of_ble_eq_true rfl⟩ ?_
  refine c_X12_countsOf hI ha ?_
  refine pm_istore (lv2 := [(5, _), (0, _), (1, _), (2, _), (3, _), (4, _)]) dX12_meet_8 (Nat.le_of_ble_eq_true rfl) rfl ?_
  refine pm_aload_n dX12_meet_10 rfl rfl ?_
  refine pm_iload_n dX12_meet_11 rfl rfl ?_
  refine pm_iload_n dX12_meet_12 rfl rfl ?_
  refine pm_iload dX12_meet_13 rfl ?_
  refine pm_callV (M2 := m_X12_countsOf) (As := [_, _, _]) ok_X12_countsOf (ci := 12) rfl kw_1131 kw_1133 kw_23 dX12_meet_15 rfl rfl rfl (Nat.le_of_ble_eq_true rfl) ⟨⟨Nat.le_of_ble_eq_true rfl, Nat.le_of_ble_eq_true rfl⟩, Nat.le_of_ble_eq_true rfl, Nat.le_of_ble_eq_true rfl⟩ ?_
  refine c_X12_countsOf hI hb ?_
  refine pm_istore (lv2 := [(6, _), (5, _), (0, _), (1, _), (2, _), (3, _), (4, _)]) dX12_meet_18 (Nat.le_of_ble_eq_true rfl) rfl ?_
  refine pm_aload_n dX12_meet_20 rfl rfl ?_
  refine pm_get fl_RX12_128_12 dX12_meet_21 rfl rfl ?_
  refine pm_iconst (v := 2) dX12_meet_24 (by decide) ?_
  rw [show (2 : Int32) = nI 2 from rfl]
  refine pm_icmp_ge (tgt := 43) dX12_meet_25 (by decide) (fun c_25 => ?_) (fun c_25 => ?_)
  · refine pm_aload_n dX12_meet_43 rfl rfl ?_
    refine pm_get fl_RX12_128_12 dX12_meet_44 rfl rfl ?_
    refine pm_iconst (v := 2) dX12_meet_47 (by decide) ?_
    refine pm_icmp_ne (tgt := 68) dX12_meet_48 (by decide) (fun c_48 => ?_) (fun c_48 => ?_)
    · refine pm_iload dX12_meet_68 rfl ?_
      refine pm_iload dX12_meet_70 rfl ?_
      refine pm_icmp_ge (tgt := 80) dX12_meet_72 (by decide) (fun c_72 => ?_) (fun c_72 => ?_)
      · refine pm_iload dX12_meet_80 rfl ?_
        refine pm_iret dX12_meet_82 rfl rfl rfl ?_
        refine th_r ?_ hQ
        have e : ¬ S 6 = 2 := fun z => c_48 (by rw [z]; rfl)
        rw [nI_leI (by decide) (by omega)] at c_25
        rw [th_m3 (by omega), if_neg (Int32.not_lt.mpr c_72)]
      · refine pm_iload dX12_meet_75 rfl ?_
        refine pm_goto (tgt := 82) dX12_meet_77 (by decide) ?_
        refine pm_iret dX12_meet_82 rfl rfl rfl ?_
        refine th_r ?_ hQ
        have e : ¬ S 6 = 2 := fun z => c_48 (by rw [z]; rfl)
        rw [nI_leI (by decide) (by omega)] at c_25
        rw [th_m3 (by omega), if_pos (Int32.not_le.mp c_72)]
    · refine pm_iload dX12_meet_51 rfl ?_
      refine pm_iload dX12_meet_53 rfl ?_
      refine pm_icmp_le (tgt := 63) dX12_meet_55 (by decide) (fun c_55 => ?_) (fun c_55 => ?_)
      · refine pm_iload dX12_meet_63 rfl ?_
        refine pm_goto (tgt := 82) dX12_meet_65 (by decide) ?_
        refine pm_iret dX12_meet_82 rfl rfl rfl ?_
        refine th_r ?_ hQ
        rw [th_m2 ((th_nn (m := 2) (by omega) (by decide)).mp c_48), if_neg (Int32.not_lt.mpr c_55)]
      · refine pm_iload dX12_meet_58 rfl ?_
        refine pm_goto (tgt := 82) dX12_meet_60 (by decide) ?_
        refine pm_iret dX12_meet_82 rfl rfl rfl ?_
        refine th_r ?_ hQ
        rw [th_m2 ((th_nn (m := 2) (by omega) (by decide)).mp c_48), if_pos (Int32.not_le.mp c_55)]
  · refine pm_aload_n dX12_meet_28 rfl rfl ?_
    refine pm_get fl_RX12_128_12 dX12_meet_29 rfl rfl ?_
    refine pm_if_ne (tgt := 40) dX12_meet_32 (by decide) (fun c_32 => ?_) (fun c_32 => ?_)
    · refine pm_iload dX12_meet_40 rfl ?_
      refine pm_iret dX12_meet_42 rfl rfl rfl ?_
      have e : ¬ S 6 = 0 := fun z => c_32 (by rw [z]; rfl)
      rw [nI_leI (by decide) (by omega)] at c_25
      exact th_r (th_m1 (by omega)) hQ
    · refine pm_iload dX12_meet_35 rfl ?_
      refine pm_goto (tgt := 42) dX12_meet_37 (by decide) ?_
      refine pm_iret dX12_meet_42 rfl rfl rfl ?_
      exact th_r (th_m0 ((th_nn (m := 0) (by omega) (by decide)).mp c_32)) hQ

def th_cf (f2 f3 f4 f5 f6 f7 x y : Int32) : Int32 := f7 + f2 * x + f3 * y + f6 * (y / 2) + (f4 * (if x < y then y else x) + f5 * (if y < x then y else x))
set_option maxHeartbeats 600000 in
set_option maxRecDepth 100000 in
theorem c_X10_countAfter {l : Launch} {G : pm_G} {ad : Nat → Nat → Nat} {w : pm_V} {g k : Nat} {f0 f1 f2 f3 f4 f5 f6 f7 x y : Int32} {Q : pm_T} (hw : pm_get? w g k = some (.inr (10, [.int f0, .int f1, .int f2, .int f3, .int f4, .int f5, .int f6, .int f7]))) (hQ : Q ad (some (.int (if th_cf f2 f3 f4 f5 f6 f7 x y < 999 then th_cf f2 f3 f4 f5 f6 f7 x y else 999))) w) : pm_C l G m_X10_countAfter [.ref (ad g k), .int x, .int y] ad w Q := by
  refine pm_met (by decide) (Nat.le_of_ble_eq_true rfl) ?_
  refine pm_aload_n dX10_countAfter_0 rfl rfl ?_
  refine pm_get fl_RX10_27_10 dX10_countAfter_1 hw rfl ?_
  refine pm_aload_n dX10_countAfter_4 rfl rfl ?_
  refine pm_get fl_RX10_9_10 dX10_countAfter_5 hw rfl ?_
  refine pm_iload_n dX10_countAfter_8 rfl rfl ?_
  refine pm_imul dX10_countAfter_9 ?_
  refine pm_iadd dX10_countAfter_10 ?_
  refine pm_aload_n dX10_countAfter_11 rfl rfl ?_
  refine pm_get fl_RX10_15_10 dX10_countAfter_12 hw rfl ?_
  refine pm_iload_n dX10_countAfter_15 rfl rfl ?_
  refine pm_imul dX10_countAfter_16 ?_
  refine pm_iadd dX10_countAfter_17 ?_
  refine pm_aload_n dX10_countAfter_18 rfl rfl ?_
  refine pm_get fl_RX10_24_10 dX10_countAfter_19 hw rfl ?_
  refine pm_iload_n dX10_countAfter_22 rfl rfl ?_
  refine pm_iconst (v := 2) dX10_countAfter_23 (by decide) ?_
  refine pm_idiv dX10_countAfter_24 (by decide) ?_
  refine pm_imul dX10_countAfter_25 ?_
  refine pm_iadd dX10_countAfter_26 ?_
  refine pm_istore_n (lv2 := [(3, _), (0, _), (1, _), (2, _)]) dX10_countAfter_27 rfl (Nat.le_of_ble_eq_true rfl) rfl ?_
  refine pm_iload_n dX10_countAfter_28 rfl rfl ?_
  refine pm_aload_n dX10_countAfter_29 rfl rfl ?_
  refine pm_get fl_RX10_18_10 dX10_countAfter_30 hw rfl ?_
  refine pm_iload_n dX10_countAfter_33 rfl rfl ?_
  refine pm_iload_n dX10_countAfter_34 rfl rfl ?_
  refine pm_max kw_368 kw_369 kw_54 kw_370 (Nat.le_of_ble_eq_true rfl) (Nat.le_of_ble_eq_true rfl) (Nat.le_of_ble_eq_true rfl) (Nat.le_of_ble_eq_true rfl) dX10_countAfter_35 ?_
  refine pm_imul dX10_countAfter_38 ?_
  refine pm_aload_n dX10_countAfter_39 rfl rfl ?_
  refine pm_get fl_RX10_21_10 dX10_countAfter_40 hw rfl ?_
  refine pm_iload_n dX10_countAfter_43 rfl rfl ?_
  refine pm_iload_n dX10_countAfter_44 rfl rfl ?_
  refine pm_min kw_371 kw_372 kw_54 kw_373 (Nat.le_of_ble_eq_true rfl) (Nat.le_of_ble_eq_true rfl) (Nat.le_of_ble_eq_true rfl) (Nat.le_of_ble_eq_true rfl) dX10_countAfter_45 ?_
  refine pm_imul dX10_countAfter_48 ?_
  refine pm_iadd dX10_countAfter_49 ?_
  refine pm_iadd dX10_countAfter_50 ?_
  refine pm_istore_n (lv2 := [(3, _), (0, _), (1, _), (2, _)]) dX10_countAfter_51 rfl (Nat.le_of_ble_eq_true rfl) rfl ?_
  refine pm_sipush (v := 999) dX10_countAfter_52 (by decide) ?_
  refine pm_iload_n dX10_countAfter_55 rfl rfl ?_
  refine pm_min kw_371 kw_372 kw_54 kw_373 (Nat.le_of_ble_eq_true rfl) (Nat.le_of_ble_eq_true rfl) (Nat.le_of_ble_eq_true rfl) (Nat.le_of_ble_eq_true rfl) dX10_countAfter_56 ?_
  refine pm_iret dX10_countAfter_59 rfl rfl rfl ?_
  exact hQ

theorem th_mx (x y : Int32) : (if x ≤ y then y else x) = (if x < y then y else x) := by
  by_cases h : x < y
  · rw [if_pos h, if_pos (Int32.le_of_lt h)]
  · by_cases h2 : x ≤ y
    · have e : x = y := Int32.le_antisymm h2 (Int32.not_lt.mp h)
      rw [if_neg h, if_pos h2, e]
    · rw [if_neg h, if_neg h2]
theorem th_cf_sum (f : Nat → Int32) (x y : Int32) : ∀ n, (∀ k, k < n → (∃ v : Nat, v ≤ 99 ∧ f k = nI v) ∨ f k = -120 ∨ f k = -121 ∨ f k = -109 ∨ f k = -108 ∨ f k = -104) → th_cf (th_cnt f (-120) n) (th_cnt f (-121) n) (th_cnt f (-109) n) (th_cnt f (-108) n) (th_cnt f (-104) n) (th_alw f n) x y = th_sum f x y n := by
  intro n
  induction n with
  | zero => intro _; simp [th_cf, th_cnt, th_alw, th_sum]
  | succ n ih =>
    intro h
    have ih := ih (fun k hk => h k (by omega))
    have hm := th_mx x y
    have hl := th_mx y x
    rcases h n (by omega) with ⟨v, hv, e⟩ | e | e | e | e | e
    · have e0 : (0 : Int32) ≤ nI v := nI_pos' (by omega)
      have e1 : ¬ nI v < 0 := nI_pos (by omega)
      have ne : ∀ c : Int32, c < 0 → ¬ nI v = c := fun c hc q => e1 (q ▸ hc)
      have e2 := ne (-120) (by decide)
      have e3 := ne (-121) (by decide)
      have e4 := ne (-109) (by decide)
      have e5 := ne (-108) (by decide)
      have e6 := ne (-104) (by decide)
      simp only [th_cnt, th_alw, th_sum, th_wo, e, if_neg e2, if_neg e3, if_neg e4, if_neg e5, if_neg e6, if_pos e0, if_neg e1, ← ih, th_cf]
      grind
    · simp only [th_cnt, th_alw, th_sum, th_wo, e, ← ih, th_cf, if_neg (show ¬ (-120 : Int32) = -121 by decide), if_neg (show ¬ (-120 : Int32) = -109 by decide), if_neg (show ¬ (-120 : Int32) = -108 by decide), if_neg (show ¬ (-120 : Int32) = -104 by decide), if_neg (show ¬ (0 : Int32) ≤ -120 by decide), if_pos (show (-120 : Int32) < 0 by decide), if_pos (show - (-120 : Int32) = 120 by decide), if_true]
      grind
    · simp only [th_cnt, th_alw, th_sum, th_wo, e, ← ih, th_cf, if_neg (show ¬ (-121 : Int32) = -120 by decide), if_neg (show ¬ (-121 : Int32) = -109 by decide), if_neg (show ¬ (-121 : Int32) = -108 by decide), if_neg (show ¬ (-121 : Int32) = -104 by decide), if_neg (show ¬ (0 : Int32) ≤ -121 by decide), if_pos (show (-121 : Int32) < 0 by decide), if_neg (show ¬ - (-121 : Int32) = 120 by decide), if_pos (show - (-121 : Int32) = 121 by decide), if_true]
      grind
    · simp only [th_cnt, th_alw, th_sum, th_wo, e, ← ih, th_cf, if_neg (show ¬ (-109 : Int32) = -120 by decide), if_neg (show ¬ (-109 : Int32) = -121 by decide), if_neg (show ¬ (-109 : Int32) = -108 by decide), if_neg (show ¬ (-109 : Int32) = -104 by decide), if_neg (show ¬ (0 : Int32) ≤ -109 by decide), if_pos (show (-109 : Int32) < 0 by decide), if_neg (show ¬ - (-109 : Int32) = 120 by decide), if_neg (show ¬ - (-109 : Int32) = 121 by decide), if_pos (show - (-109 : Int32) = 109 by decide), if_true, hm]
      generalize (if x < y then y else x) = p
      generalize (if y < x then y else x) = q
      grind
    · simp only [th_cnt, th_alw, th_sum, th_wo, e, ← ih, th_cf, if_neg (show ¬ (-108 : Int32) = -120 by decide), if_neg (show ¬ (-108 : Int32) = -121 by decide), if_neg (show ¬ (-108 : Int32) = -109 by decide), if_neg (show ¬ (-108 : Int32) = -104 by decide), if_neg (show ¬ (0 : Int32) ≤ -108 by decide), if_pos (show (-108 : Int32) < 0 by decide), if_neg (show ¬ - (-108 : Int32) = 120 by decide), if_neg (show ¬ - (-108 : Int32) = 121 by decide), if_neg (show ¬ - (-108 : Int32) = 109 by decide), if_pos (show - (-108 : Int32) = 108 by decide), if_true]
      have hl2 : (if y ≤ x then y else x) = (if y < x then y else x) := by
        by_cases q : y < x
        · rw [if_pos q, if_pos (Int32.le_of_lt q)]
        · by_cases q2 : y ≤ x
          · have e : y = x := Int32.le_antisymm q2 (Int32.not_lt.mp q)
            rw [if_neg q, if_pos q2, e]
          · rw [if_neg q, if_neg q2]
      rw [hl2]
      generalize (if x < y then y else x) = p
      generalize (if y < x then y else x) = q
      grind
    · simp only [th_cnt, th_alw, th_sum, th_wo, e, ← ih, th_cf, if_neg (show ¬ (-104 : Int32) = -120 by decide), if_neg (show ¬ (-104 : Int32) = -121 by decide), if_neg (show ¬ (-104 : Int32) = -109 by decide), if_neg (show ¬ (-104 : Int32) = -108 by decide), if_neg (show ¬ (0 : Int32) ≤ -104 by decide), if_pos (show (-104 : Int32) < 0 by decide), if_neg (show ¬ - (-104 : Int32) = 120 by decide), if_neg (show ¬ - (-104 : Int32) = 121 by decide), if_neg (show ¬ - (-104 : Int32) = 109 by decide), if_neg (show ¬ - (-104 : Int32) = 108 by decide), if_true]
      generalize (if x < y then y else x) = p
      generalize (if y < x then y else x) = q
      generalize y / 2 = h2
      grind
theorem th_cf_ca {S : Nat → Nat} {A : Nat → Nat → Int32} (hI : th_I2 S A) {j : Nat} (hj : j < S 2) (x y : Int32) : (if th_cf (th_cnt (th_tf A j) (-120) (th_n (A 3 j))) (th_cnt (th_tf A j) (-121) (th_n (A 3 j))) (th_cnt (th_tf A j) (-109) (th_n (A 3 j))) (th_cnt (th_tf A j) (-108) (th_n (A 3 j))) (th_cnt (th_tf A j) (-104) (th_n (A 3 j))) (th_alw (th_tf A j) (th_n (A 3 j))) x y < 999 then th_cf (th_cnt (th_tf A j) (-120) (th_n (A 3 j))) (th_cnt (th_tf A j) (-121) (th_n (A 3 j))) (th_cnt (th_tf A j) (-109) (th_n (A 3 j))) (th_cnt (th_tf A j) (-108) (th_n (A 3 j))) (th_cnt (th_tf A j) (-104) (th_n (A 3 j))) (th_alw (th_tf A j) (th_n (A 3 j))) x y else 999) = th_ca A j x y := by
  obtain ⟨n, hn, he, ht⟩ := hI.2 j hj
  have e : th_n (A 3 j) = n := by rw [he]; exact th_n_nI (by omega)
  rw [th_cf_sum (th_tf A j) x y (th_n (A 3 j)) (by rw [e]; exact ht)]
  rfl
theorem c_X10_ca {l : Launch} {G : pm_G} {ad : Nat → Nat → Nat} {w : pm_V} {S : Nat → Nat} {A : Nat → Nat → Int32} {Q : pm_T} {j : Nat} {x y : Int32} (hI : th_I2 S A) (hj : j < S 2) (hw : pm_get? w 1 j = some (.inr (10, th_sf A j))) (hQ : Q ad (some (.int (th_ca A j x y))) w) : pm_C l G m_X10_countAfter [.ref (ad 1 j), .int x, .int y] ad w Q := c_X10_countAfter hw (by rw [th_cf_ca hI hj]; exact hQ)
set_option maxHeartbeats 600000 in
set_option maxRecDepth 100000 in
theorem c_X10_countOver {l : Launch} {G : pm_G} {ad : Nat → Nat → Nat} {w : pm_V} {S : Nat → Nat} {A : Nat → Nat → Int32} {Q : pm_T} {a b how : Nat} {x y : Int32} (hI : th_I2 S A) (ha : a < S 2) (hb : b < S 2) (h6 : how ≤ 3) (hw : pm_get? w 1 a = some (.inr (10, th_sf A a))) (hv : pm_get? w 1 b = some (.inr (10, th_sf A b))) (hQ : Q ad (some (.int (th_meet A how a b x y))) w) : pm_C l G m_X10_countOver [.ref (ad 1 a), .ref (ad 1 b), .int x, .int y, .int (nI how)] ad w Q := by
  refine pm_met (by decide) (Nat.le_of_ble_eq_true rfl) ?_
  refine pm_aload_n dX10_countOver_0 rfl rfl ?_
  refine pm_iload_n dX10_countOver_1 rfl rfl ?_
  refine pm_iload_n dX10_countOver_2 rfl rfl ?_
  refine pm_callV (M2 := m_X10_countAfter) (As := [_, _]) ok_X10_countAfter (ci := 10) rfl kw_616 kw_365 kw_366 dX10_countOver_3 hw rfl rfl (Nat.le_of_ble_eq_true rfl) ⟨⟨Nat.le_of_ble_eq_true rfl, Nat.le_of_ble_eq_true rfl⟩, Nat.le_of_ble_eq_true rfl, Nat.le_of_ble_eq_true rfl⟩ ?_
  refine c_X10_ca hI ha hw ?_
  refine pm_istore (lv2 := [(5, _), (0, _), (1, _), (2, _), (3, _), (4, _)]) dX10_countOver_6 (Nat.le_of_ble_eq_true rfl) rfl ?_
  refine pm_aload_n dX10_countOver_8 rfl rfl ?_
  refine pm_get fl_RX10_45_10 dX10_countOver_9 hw rfl ?_
  refine pm_aload_n dX10_countOver_12 rfl rfl ?_
  refine pm_get fl_RX10_45_10 dX10_countOver_13 hv rfl ?_
  refine pm_icmp_eq (tgt := 24) dX10_countOver_16 (by decide) (fun c_16 => ?_) (fun c_16 => ?_)
  · refine pm_iload dX10_countOver_24 rfl ?_
    refine pm_iret dX10_countOver_26 rfl rfl rfl ?_
    have e : a = b := (nI_eq (by have := hI.1; omega) (by have := hI.1; omega)).mp c_16
    subst e
    exact th_r th_msame hQ
  · refine pm_iload dX10_countOver_19 rfl ?_
    refine pm_if_ne (tgt := 27) dX10_countOver_21 (by decide) (fun c_21 => ?_) (fun c_21 => ?_)
    · refine pm_aload_n dX10_countOver_27 rfl rfl ?_
      refine pm_iload_n dX10_countOver_28 rfl rfl ?_
      refine pm_iload_n dX10_countOver_29 rfl rfl ?_
      refine pm_callV (M2 := m_X10_countAfter) (As := [_, _]) ok_X10_countAfter (ci := 10) rfl kw_616 kw_365 kw_366 dX10_countOver_30 hv rfl rfl (Nat.le_of_ble_eq_true rfl) ⟨⟨Nat.le_of_ble_eq_true rfl, Nat.le_of_ble_eq_true rfl⟩, Nat.le_of_ble_eq_true rfl, Nat.le_of_ble_eq_true rfl⟩ ?_
      refine c_X10_ca hI hb hv ?_
      refine pm_istore (lv2 := [(6, _), (5, _), (0, _), (1, _), (2, _), (3, _), (4, _)]) dX10_countOver_33 (Nat.le_of_ble_eq_true rfl) rfl ?_
      refine pm_iload dX10_countOver_35 rfl ?_
      refine pm_iconst (v := 1) dX10_countOver_37 (by decide) ?_
      refine pm_icmp_ne (tgt := 44) dX10_countOver_38 (by decide) (fun c_38 => ?_) (fun c_38 => ?_)
      · refine pm_iload dX10_countOver_44 rfl ?_
        refine pm_iconst (v := 2) dX10_countOver_46 (by decide) ?_
        refine pm_icmp_ne (tgt := 60) dX10_countOver_47 (by decide) (fun c_47 => ?_) (fun c_47 => ?_)
        · refine pm_iload dX10_countOver_60 rfl ?_
          refine pm_iload dX10_countOver_62 rfl ?_
          refine pm_min kw_371 kw_372 kw_54 kw_373 (Nat.le_of_ble_eq_true rfl) (Nat.le_of_ble_eq_true rfl) (Nat.le_of_ble_eq_true rfl) (Nat.le_of_ble_eq_true rfl) dX10_countOver_64 ?_
          refine pm_iret dX10_countOver_67 rfl rfl rfl ?_
          refine th_r ?_ hQ
          have e0 : ¬ how = 0 := fun z => c_21 (by rw [z]; rfl)
          have e1 : ¬ how = 1 := fun z => c_38 (by rw [z]; rfl)
          have e2 : ¬ how = 2 := fun z => c_47 (by rw [z]; rfl)
          rw [th_m3 (by omega)]
          exact th_mn _ _
        · refine pm_iload dX10_countOver_50 rfl ?_
          refine pm_iload dX10_countOver_52 rfl ?_
          refine pm_max kw_368 kw_369 kw_54 kw_370 (Nat.le_of_ble_eq_true rfl) (Nat.le_of_ble_eq_true rfl) (Nat.le_of_ble_eq_true rfl) (Nat.le_of_ble_eq_true rfl) dX10_countOver_54 ?_
          refine pm_goto (tgt := 67) dX10_countOver_57 (by decide) ?_
          refine pm_iret dX10_countOver_67 rfl rfl rfl ?_
          refine th_r ?_ hQ
          rw [th_m2 ((th_nn (m := 2) (by omega) (by decide)).mp c_47)]
          exact th_mm _ _
      · refine pm_iload dX10_countOver_41 rfl ?_
        refine pm_iret dX10_countOver_43 rfl rfl rfl ?_
        exact th_r (th_m1 ((th_nn (m := 1) (by omega) (by decide)).mp c_38)) hQ
    · refine pm_iload dX10_countOver_24 rfl ?_
      refine pm_iret dX10_countOver_26 rfl rfl rfl ?_
      exact th_r (th_m0 ((th_nn (m := 0) (by omega) (by decide)).mp c_21)) hQ

