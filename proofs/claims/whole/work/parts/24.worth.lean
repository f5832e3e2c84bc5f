set_option maxHeartbeats 600000 in
set_option maxRecDepth 100000 in
theorem c_X2_hasSet {l : Launch} {G : pm_G} {ad : Nat → Nat → Nat} {S : Nat → Nat} {A : Nat → Nat → Int32} {X : Nat → Int32} {Y : Nat → Nat → Int32} {F : Nat → Int64} {Hd Cs : Nat → Option Nat} {m : List pm_A} {Q : pm_T} {x : Int32} (h34 : S 34 ≤ 8) (h1 : ∀ n, n < 2 ^ S 34 → x = nI n → Q ad (some (.int 1)) (th_cw ad S A X Y F Hd Cs m)) (h0 : ¬ th_is x (2 ^ S 34) → Q ad (some (.int 0)) (th_cw ad S A X Y F Hd Cs m)) : pm_C l G m_X2_hasSet [.ref (ad 6 0), .int x] ad (th_cw ad S A X Y F Hd Cs m) Q := by
  have hp := th_isp (n := 0) (show S 34 ≤ 10 by omega)
  refine pm_met (by decide) (Nat.le_of_ble_eq_true rfl) ?_
  refine pm_iload_n dX2_hasSet_0 rfl rfl ?_
  refine pm_if_lt (tgt := 18) dX2_hasSet_1 (by decide) (fun c_1 => ?_) (fun c_1 => ?_)
  · refine pm_iconst (v := 0) dX2_hasSet_18 (by decide) ?_
    refine pm_zret dX2_hasSet_19 rfl rfl rfl rfl ?_
    exact h0 (fun ⟨n, hn, e⟩ => absurd c_1 (by rw [e]; exact nI_pos (by omega)))
  · obtain ⟨n, hn31, rfl⟩ := nI_of c_1
    refine pm_iload_n dX2_hasSet_4 rfl rfl ?_
    refine pm_iconst (v := 1) dX2_hasSet_5 (by decide) ?_
    refine pm_aload_n dX2_hasSet_6 rfl rfl ?_
    refine pm_get fl_RX2_24_2 dX2_hasSet_7 rfl rfl ?_
    refine pm_ishl dX2_hasSet_10 ?_
    rw [th_sh1 (S 34) (by omega)]
    refine pm_icmp_ge (tgt := 18) dX2_hasSet_11 (by decide) (fun c_11 => ?_) (fun c_11 => ?_)
    · refine pm_iconst (v := 0) dX2_hasSet_18 (by decide) ?_
      refine pm_zret dX2_hasSet_19 rfl rfl rfl rfl ?_
      rw [nI_leI (by omega) hn31] at c_11
      exact h0 (fun ⟨q, hq, e⟩ => absurd ((nI_eq hn31 (by omega)).mp e) (by omega))
    · refine pm_iconst (v := 1) dX2_hasSet_14 (by decide) ?_
      refine pm_goto (tgt := 19) dX2_hasSet_15 (by decide) ?_
      refine pm_zret dX2_hasSet_19 rfl rfl rfl rfl ?_
      rw [nI_leI (by omega) hn31] at c_11
      exact h1 n (by omega) rfl

def th_worthA (S : Nat → Nat) (A : Nat → Nat → Int32) (x z p : Int32) : Int64 := if th_ok x (S 11) then (if th_ok z (2 ^ S 34) ∧ (0 ≤ p ∧ p ≤ 1) then th_trm (th_wN S A (th_n x) (th_n z)) (10 ^ th_bits (th_n z) 10) p else -102) else -101
theorem th_okc {S : Nat → Nat} {x : Int32} (h : S 34 ≤ 8) : (0 ≤ x ∧ x ≤ (1 : Int32) <<< (nI (S 34) &&& 31) - 1) ↔ th_ok x (2 ^ S 34) := by rw [th_sh1 (S 34) (by omega)]
def th_sv (S : Nat → Nat) (A : Nat → Nat → Int32) (i n : Nat) : Int64 := th_wl S A i n * lN (10 ^ (8 - th_bits n 10))
/-- the season's best, over the first sets: its worth, the set -/
def th_sn (S : Nat → Nat) (A : Nat → Nat → Int32) (i : Nat) : Nat → Int64 × Nat
  | 0 => (-1, 0)
  | n + 1 => if (th_sn S A i n).1 < th_sv S A i n ∨ (th_sv S A i n = (th_sn S A i n).1 ∧ th_bits n 10 < th_bits (th_sn S A i n).2 10) then (th_sv S A i n, n) else th_sn S A i n
theorem th_sn1 {S : Nat → Nat} {A : Nat → Nat → Int32} {i n be : Nat} {mo : Int64} (hp : th_sn S A i n = (mo, be)) (h : mo < th_sv S A i n ∨ (th_sv S A i n = mo ∧ th_bits n 10 < th_bits be 10)) : th_sn S A i (n + 1) = (th_sv S A i n, n) := by
  rw [th_sn, hp, if_pos h]
theorem th_sn0 {S : Nat → Nat} {A : Nat → Nat → Int32} {i n be : Nat} {mo : Int64} (hp : th_sn S A i n = (mo, be)) (h : ¬ (mo < th_sv S A i n ∨ (th_sv S A i n = mo ∧ th_bits n 10 < th_bits be 10))) : th_sn S A i (n + 1) = (mo, be) := by
  rw [th_sn, hp, if_neg h]
def th_seasonA (S : Nat → Nat) (A : Nat → Nat → Int32) (x : Int32) : Int32 := if th_ok x (S 11) then nI (th_sn S A (th_n x) (2 ^ S 34)).2 else -101
set_option maxHeartbeats 600000 in
set_option maxRecDepth 100000 in
theorem c_X12_worth {l : Launch} {G : pm_G} {ad : Nat → Nat → Nat} {a0 a3 a4 a5 a6 a7 : List pm_A} {a1 a2 : Nat → Option pm_A} {S : Nat → Nat} {A : Nat → Nat → Int32} {s : Nat → Int32} {B : Nat → Nat → Int32} {hs : Int64} {Q : pm_T} {x z p : Int32} (hI : th_I S A) (hQ : Q ad (some (.long (th_worthA S A x z p))) (a0, a1, a2, a3, a4, a5, a6, a7, th_mp ad S A s B hs)) : pm_C l G m_X12_worth [.ref (ad 8 0), .int x, .int z, .int p] ad (a0, a1, a2, a3, a4, a5, a6, a7, th_mp ad S A s B hs) Q := by
  have h8 := hI.2.2.2.2.1.1
  have h34 := hI.2.2.2.2.2.2.1.1
  have hp2 := th_isp (n := 0) (show S 34 ≤ 10 by omega)
  refine pm_met (by decide) (Nat.le_of_ble_eq_true rfl) ?_
  refine pm_aload_n dX12_worth_0 rfl rfl ?_
  refine pm_iload_n dX12_worth_1 rfl rfl ?_
  refine pm_callV (M2 := m_X12_isNut) (As := [_]) ok_X12_isNut (ci := 12) rfl kw_1154 kw_1156 kw_24 dX12_worth_2 rfl rfl rfl (Nat.le_of_ble_eq_true rfl) ⟨⟨Nat.le_of_ble_eq_true rfl, Nat.le_of_ble_eq_true rfl⟩, Nat.le_of_ble_eq_true rfl, Nat.le_of_ble_eq_true rfl⟩ ?_
  refine c_X12_isNut h8 (fun i hi e => ?_) (fun hn => ?_)
  · subst e
    refine pm_if_ne (tgt := 12) dX12_worth_5 (by decide) (fun c_5 => ?_) (fun c_5 => absurd c_5 (by decide))
    refine pm_iload_n dX12_worth_12 rfl rfl ?_
    refine pm_i2l dX12_worth_13 ?_
    refine pm_lconst (v := 0) dX12_worth_14 (by decide) ?_
    refine pm_iconst (v := 1) dX12_worth_15 (by decide) ?_
    refine pm_aload_n dX12_worth_16 rfl rfl ?_
    refine pm_get fl_RX12_259_12 dX12_worth_17 rfl rfl ?_
    refine pm_ishl dX12_worth_20 ?_
    refine pm_iconst (v := 1) dX12_worth_21 (by decide) ?_
    refine pm_isub dX12_worth_22 ?_
    refine pm_i2l dX12_worth_23 ?_
    refine pm_callS (M2 := m_X12_in) (As := [_, _, _]) ok_X12_in kw_1115 kw_1116 dX12_worth_24 rfl rfl (Nat.le_of_ble_eq_true rfl) ⟨⟨Nat.le_of_ble_eq_true rfl, Nat.le_of_ble_eq_true rfl⟩, Nat.le_of_ble_eq_true rfl, Nat.le_of_ble_eq_true rfl⟩ ?_
    refine c_X12_in32 (lo := 0) (hi := 1 <<< (nI (S 34) &&& 31) - 1) rfl rfl (fun u v => ?_) (fun u => ?_)
    · obtain ⟨n, hn2, rfl⟩ := (th_is_iff (by omega)).mp ((th_okc h34).mp ⟨u, v⟩)
      rw [th_sh1 (S 34) (by omega)] at v
      refine pm_if_eq (tgt := 37) dX12_worth_27 (by decide) (fun c_27 => absurd c_27 (by decide)) (fun c_27 => ?_)
      refine pm_iload_n dX12_worth_30 rfl rfl ?_
      refine pm_callS (M2 := m_X12_isPart) (As := [_]) ok_X12_isPart kw_1273 kw_1274 dX12_worth_31 rfl rfl (Nat.le_of_ble_eq_true rfl) ⟨⟨Nat.le_of_ble_eq_true rfl, Nat.le_of_ble_eq_true rfl⟩, Nat.le_of_ble_eq_true rfl, Nat.le_of_ble_eq_true rfl⟩ ?_
      refine c_X12_isPart (fun u2 v2 => ?_) (fun u2 => ?_)
      · refine pm_if_ne (tgt := 41) dX12_worth_34 (by decide) (fun c_34 => ?_) (fun c_34 => absurd c_34 (by decide))
        have hcd : th_ok (nI n) (2 ^ S 34) ∧ (0 ≤ p ∧ p ≤ 1) := ⟨⟨u, v⟩, u2, v2⟩
        obtain ⟨hb8, hb10⟩ := th_bits_lt (Nat.lt_of_lt_of_le hn2 (show 2 ^ S 34 ≤ 2 ^ 8 from Nat.pow_le_pow_right (by decide) h34)) 10
        have hpb := th_p10 (th_bits n 10) (by omega)
        obtain ⟨ewn, hwn⟩ := th_wl_N hI (n := n) hi
        refine pm_aload_n dX12_worth_41 rfl rfl ?_
        refine pm_iload_n dX12_worth_42 rfl rfl ?_
        refine pm_iload_n dX12_worth_43 rfl rfl ?_
        refine pm_callV (M2 := m_X12_worthOfSet) (As := [_, _]) ok_X12_worthOfSet (ci := 12) rfl kw_1310 kw_1312 kw_38 dX12_worth_44 rfl rfl rfl (Nat.le_of_ble_eq_true rfl) ⟨⟨Nat.le_of_ble_eq_true rfl, Nat.le_of_ble_eq_true rfl⟩, Nat.le_of_ble_eq_true rfl, Nat.le_of_ble_eq_true rfl⟩ ?_
        refine c_X12_worthOfSet hI hi (by omega) ?_
        refine pm_bipush (v := 10) dX12_worth_47 (by decide) ?_
        refine pm_iload_n dX12_worth_49 rfl rfl ?_
        refine pm_callS (M2 := m_X12_bitsOf) (As := [_]) ok_X12_bitsOf kw_1240 kw_1241 dX12_worth_50 rfl rfl (Nat.le_of_ble_eq_true rfl) ⟨⟨Nat.le_of_ble_eq_true rfl, Nat.le_of_ble_eq_true rfl⟩, Nat.le_of_ble_eq_true rfl, Nat.le_of_ble_eq_true rfl⟩ ?_
        refine c_X12_bitsOf (by omega) ?_
        refine pm_callS (M2 := m_X12_power) (As := [_, _]) ok_X12_power kw_1277 kw_1278 dX12_worth_53 rfl rfl (Nat.le_of_ble_eq_true rfl) ⟨⟨Nat.le_of_ble_eq_true rfl, Nat.le_of_ble_eq_true rfl⟩, Nat.le_of_ble_eq_true rfl, Nat.le_of_ble_eq_true rfl⟩ ?_
        refine c_X12_power (by omega) ?_
        refine pm_i2l dX12_worth_56 ?_
        refine pm_iload_n dX12_worth_57 rfl rfl ?_
        rw [ewn, th_pi10 _ (by omega), nI_l hpb.2]
        refine pm_callS (M2 := m_X12_term) (As := [_, _, _]) ok_X12_term kw_1288 kw_1289 dX12_worth_58 rfl rfl (Nat.le_of_ble_eq_true rfl) ⟨⟨Nat.le_of_ble_eq_true rfl, Nat.le_of_ble_eq_true rfl⟩, Nat.le_of_ble_eq_true rfl, Nat.le_of_ble_eq_true rfl⟩ ?_
        refine c_X12_term (by omega) (by omega) hpb.1 ?_
        refine pm_lret dX12_worth_61 rfl rfl rfl ?_
        refine th_rl ?_ hQ
        rw [th_worthA, if_pos (th_okt hi (by omega)), if_pos hcd, th_n_nI (by omega), th_n_nI (by omega)]
      · refine pm_if_ne (tgt := 41) dX12_worth_34 (by decide) (fun c_34 => absurd (rfl) c_34) (fun c_34 => ?_)
        refine pm_ldc2 kw_1257 dX12_worth_37 ?_
        refine pm_lret dX12_worth_40 rfl rfl rfl ?_
        refine th_rl ?_ hQ
        rw [th_worthA, if_pos (th_okt hi (by omega)), if_neg (fun z => u2 z.2)]
    · rw [th_okc h34] at u
      refine pm_if_eq (tgt := 37) dX12_worth_27 (by decide) (fun c_27 => ?_) (fun c_27 => absurd (rfl) c_27)
      refine pm_ldc2 kw_1257 dX12_worth_37 ?_
      refine pm_lret dX12_worth_40 rfl rfl rfl ?_
      refine th_rl ?_ hQ
      rw [th_worthA, if_pos (th_okt hi (by omega)), if_neg (fun z => u z.1)]
  · refine pm_if_ne (tgt := 12) dX12_worth_5 (by decide) (fun c_5 => absurd (rfl) c_5) (fun c_5 => ?_)
    refine pm_ldc2 kw_1256 dX12_worth_8 ?_
    refine pm_lret dX12_worth_11 rfl rfl rfl ?_
    refine th_rl ?_ hQ
    rw [th_worthA, if_neg (th_okf hn (by omega))]

set_option maxHeartbeats 600000 in
set_option maxRecDepth 100000 in
theorem c_X11_worth {l : Launch} {G : pm_G} {ad : Nat → Nat → Nat} {S : Nat → Nat} {A : Nat → Nat → Int32} {X : Nat → Int32} {Y : Nat → Nat → Int32} {F : Nat → Int64} {Hd Cs : Nat → Option Nat} {m : List pm_A} {Q : pm_T} {x z p : Int32} (hI : th_I S A) (hJ : th_J ad S A Y Cs) (hQ : Q ad (some (.long (th_worthA S A x z p))) (th_cw ad S A X Y F Hd Cs m)) : pm_C l G m_X11_worth [.ref (ad 0 0), .int x, .int z, .int p] ad (th_cw ad S A X Y F Hd Cs m) Q := by
  have h8 := hI.2.2.2.2.1.1
  have h34 := hI.2.2.2.2.2.2.1.1
  have hp2 := th_isp (n := 0) (show S 34 ≤ 10 by omega)
  refine pm_met (by decide) (Nat.le_of_ble_eq_true rfl) ?_
  refine pm_aload_n dX11_worth_0 rfl rfl ?_
  refine pm_iload_n dX11_worth_1 rfl rfl ?_
  refine pm_callV (M2 := m_X11_nutOf) (As := [_]) ok_X11_nutOf (ci := 11) rfl kw_545 kw_547 kw_5 dX11_worth_2 rfl rfl rfl (Nat.le_of_ble_eq_true rfl) ⟨⟨Nat.le_of_ble_eq_true rfl, Nat.le_of_ble_eq_true rfl⟩, Nat.le_of_ble_eq_true rfl, Nat.le_of_ble_eq_true rfl⟩ ?_
  refine c_X11_nutOf h8 (fun i hi e => ?_) (fun hn => ?_)
  · subst e
    obtain ⟨⟨ki, hki, eki⟩, ⟨si, hsi, esi⟩, -⟩ := th_nk hI hi
    have hwi : th_g2 ad S A Y i = some (.inr (pm_kc (th_n (A 6 i)), th_nf ad A Y i)) := th_nt_get hi
    rw [eki, th_n_nI (by omega)] at hwi
    refine pm_astore (lv2 := [(4, _), (0, _), (1, _), (2, _), (3, _)]) dX11_worth_5 (Nat.le_of_ble_eq_true rfl) rfl ?_
    refine pm_aload dX11_worth_7 rfl ?_
    refine pm_ifnonnull (tgt := 16) dX11_worth_9 (by decide) ?_
    refine pm_aload_n dX11_worth_16 rfl rfl ?_
    refine pm_get fl_RX11_52_11 dX11_worth_17 rfl rfl ?_
    refine pm_iload_n dX11_worth_20 rfl rfl ?_
    refine pm_callV (M2 := m_X2_hasSet) (As := [_]) ok_X2_hasSet (ci := 2) rfl kw_820 kw_821 kw_822 dX11_worth_21 rfl rfl rfl (Nat.le_of_ble_eq_true rfl) ⟨⟨Nat.le_of_ble_eq_true rfl, Nat.le_of_ble_eq_true rfl⟩, Nat.le_of_ble_eq_true rfl, Nat.le_of_ble_eq_true rfl⟩ ?_
    refine c_X2_hasSet h34 (fun n hn2 e2 => ?_) (fun u => ?_)
    · subst e2
      refine pm_if_eq (tgt := 36) dX11_worth_24 (by decide) (fun c_24 => absurd c_24 (by decide)) (fun c_24 => ?_)
      refine pm_iload_n dX11_worth_27 rfl rfl ?_
      refine pm_iconst (v := 0) dX11_worth_28 (by decide) ?_
      refine pm_iconst (v := 1) dX11_worth_29 (by decide) ?_
      refine pm_callS (M2 := m_X11_isOutside) (As := [_, _, _]) ok_X11_isOutside kw_361 kw_362 dX11_worth_30 rfl rfl (Nat.le_of_ble_eq_true rfl) ⟨⟨Nat.le_of_ble_eq_true rfl, Nat.le_of_ble_eq_true rfl⟩, Nat.le_of_ble_eq_true rfl, Nat.le_of_ble_eq_true rfl⟩ ?_
      refine c_X11_isOutside (fun u => ?_) (fun u2 v2 => ?_)
      · refine pm_if_eq (tgt := 40) dX11_worth_33 (by decide) (fun c_33 => absurd c_33 (by decide)) (fun c_33 => ?_)
        refine pm_ldc2 kw_730 dX11_worth_36 ?_
        refine pm_lret dX11_worth_39 rfl rfl rfl ?_
        refine th_rl ?_ hQ
        rw [th_worthA, if_pos (th_okt hi (by omega)), if_neg (fun z => u z.2)]
      · refine pm_if_eq (tgt := 40) dX11_worth_33 (by decide) (fun c_33 => ?_) (fun c_33 => absurd (rfl) c_33)
        have hcd : th_ok (nI n) (2 ^ S 34) ∧ (0 ≤ p ∧ p ≤ 1) := ⟨th_okt hn2 (by omega), u2, v2⟩
        obtain ⟨hb8, hb10⟩ := th_bits_lt (Nat.lt_of_lt_of_le hn2 (show 2 ^ S 34 ≤ 2 ^ 8 from Nat.pow_le_pow_right (by decide) h34)) 10
        have hpb := th_p10 (th_bits n 10) (by omega)
        obtain ⟨ewn, hwn⟩ := th_wl_N hI (n := n) hi
        refine pm_aload_n dX11_worth_40 rfl rfl ?_
        refine pm_get fl_RX11_52_11 dX11_worth_41 rfl rfl ?_
        refine pm_aload dX11_worth_44 rfl ?_
        refine pm_iload_n dX11_worth_46 rfl rfl ?_
        refine pm_aload_n dX11_worth_47 rfl rfl ?_
        refine pm_get fl_RX11_60_11 dX11_worth_48 rfl rfl ?_
        refine pm_callV (M2 := m_X2_worthAbove) (As := [_, _, _]) ok_X2_worthAbove (ci := 2) rfl kw_824 kw_825 kw_826 dX11_worth_51 rfl rfl rfl (Nat.le_of_ble_eq_true rfl) ⟨⟨Nat.le_of_ble_eq_true rfl, Nat.le_of_ble_eq_true rfl⟩, Nat.le_of_ble_eq_true rfl, Nat.le_of_ble_eq_true rfl⟩ ?_
        refine c_X2_worthAbove hI hJ hi (by omega) hwi ?_
        refine pm_lstore (lv2 := [(5, _), (4, _), (0, _), (1, _), (2, _), (3, _)]) dX11_worth_54 (Nat.le_of_ble_eq_true rfl) rfl ?_
        refine pm_lload dX11_worth_56 rfl ?_
        refine pm_ldc2 kw_830 dX11_worth_58 ?_
        refine pm_iload_n dX11_worth_61 rfl rfl ?_
        refine pm_callS (M2 := m_J6_bitCount_0f7a4) (As := [_]) ok_J6_bitCount_0f7a4 kw_729 kw_701 dX11_worth_62 rfl rfl (Nat.le_of_ble_eq_true rfl) ⟨⟨Nat.le_of_ble_eq_true rfl, Nat.le_of_ble_eq_true rfl⟩, Nat.le_of_ble_eq_true rfl, Nat.le_of_ble_eq_true rfl⟩ ?_
        refine c_bitCount (by omega) ?_
        refine pm_callS (M2 := m_X11_power) (As := [_, _]) ok_X11_power kw_831 kw_775 dX11_worth_65 rfl rfl (Nat.le_of_ble_eq_true rfl) ⟨⟨Nat.le_of_ble_eq_true rfl, Nat.le_of_ble_eq_true rfl⟩, Nat.le_of_ble_eq_true rfl, Nat.le_of_ble_eq_true rfl⟩ ?_
        refine c_X11_power (by omega) ?_
        refine pm_iload_n dX11_worth_68 rfl rfl ?_
        rw [ewn, th_pw10 _ (by omega)]
        refine pm_callS (M2 := m_X11_inLowestTerms) (As := [_, _, _]) ok_X11_inLowestTerms kw_832 kw_787 dX11_worth_69 rfl rfl (Nat.le_of_ble_eq_true rfl) ⟨⟨Nat.le_of_ble_eq_true rfl, Nat.le_of_ble_eq_true rfl⟩, Nat.le_of_ble_eq_true rfl, Nat.le_of_ble_eq_true rfl⟩ ?_
        refine c_X11_inLowestTerms (by omega) (by omega) hpb.1 ?_
        refine pm_lret dX11_worth_72 rfl rfl rfl ?_
        refine th_rl ?_ hQ
        rw [th_worthA, if_pos (th_okt hi (by omega)), if_pos hcd, th_n_nI (by omega), th_n_nI (by omega)]
    · refine pm_if_eq (tgt := 36) dX11_worth_24 (by decide) (fun c_24 => ?_) (fun c_24 => absurd (rfl) c_24)
      refine pm_ldc2 kw_730 dX11_worth_36 ?_
      refine pm_lret dX11_worth_39 rfl rfl rfl ?_
      refine th_rl ?_ hQ
      rw [th_worthA, if_pos (th_okt hi (by omega)), if_neg (fun z => th_okf u (by omega) z.1)]
  · refine pm_nstore (lv2 := [(4, _), (0, _), (1, _), (2, _), (3, _)]) dX11_worth_5 (Nat.le_of_ble_eq_true rfl) rfl ?_
    refine pm_nload dX11_worth_7 rfl ?_
    refine pm_ifnonnullN dX11_worth_9 ?_
    refine pm_ldc2 kw_728 dX11_worth_12 ?_
    refine pm_lret dX11_worth_15 rfl rfl rfl ?_
    refine th_rl ?_ hQ
    rw [th_worthA, if_neg (th_okf hn (by omega))]

set_option maxHeartbeats 600000 in
set_option maxRecDepth 100000 in
theorem c_X12_seasonOf {l : Launch} {G : pm_G} {ad : Nat → Nat → Nat} {a0 a3 a4 a5 a6 a7 : List pm_A} {a1 a2 : Nat → Option pm_A} {S : Nat → Nat} {A : Nat → Nat → Int32} {s : Nat → Int32} {B : Nat → Nat → Int32} {hs : Int64} {Q : pm_T} {i : Nat} (hI : th_I S A) (hi : i < S 11) (hQ : Q ad (some (.int (nI (th_sn S A i (2 ^ S 34)).2))) (a0, a1, a2, a3, a4, a5, a6, a7, th_mp ad S A s B hs)) : pm_C l G m_X12_seasonOf [.ref (ad 8 0), .int (nI i)] ad (a0, a1, a2, a3, a4, a5, a6, a7, th_mp ad S A s B hs) Q := by
  have h8 := hI.2.2.2.2.1.1
  have h34 := hI.2.2.2.2.2.2.1.1
  have hp2 := th_isp (n := 0) (show S 34 ≤ 10 by omega)
  refine pm_met (by decide) (Nat.le_of_ble_eq_true rfl) ?_
  refine pm_iconst (v := 0) dX12_seasonOf_0 (by decide) ?_
  refine pm_istore_n (lv2 := [(2, _), (0, _), (1, _)]) dX12_seasonOf_1 rfl (Nat.le_of_ble_eq_true rfl) rfl ?_
  refine pm_ldc2 kw_1219 dX12_seasonOf_2 ?_
  refine pm_lstore_n (lv2 := [(3, _), (2, _), (0, _), (1, _)]) dX12_seasonOf_5 rfl (Nat.le_of_ble_eq_true rfl) rfl ?_
  refine pm_iconst (v := 0) dX12_seasonOf_6 (by decide) ?_
  refine pm_istore (lv2 := [(5, _), (3, _), (2, _), (0, _), (1, _)]) dX12_seasonOf_7 (Nat.le_of_ble_eq_true rfl) rfl ?_
  suffices H : ∀ n, n ≤ 2 ^ S 34 → ∀ mo be, th_sn S A i n = (mo, be) → be < 1024 → pm_W l G m_X12_seasonOf ad 9 [(5, .int (nI n)), (3, .long mo), (2, .int (nI be)), (0, .ref (ad 8 0)), (1, .int (nI i))] [] (a0, a1, a2, a3, a4, a5, a6, a7, th_mp ad S A s B hs) 0 0 Q from H 0 (Nat.zero_le _) (-1) 0 rfl (by decide)
  refine th_loop _ ?_
  intro n hn k mo be hp hbe
  refine pm_iload dX12_seasonOf_9 rfl ?_
  refine pm_iconst (v := 1) dX12_seasonOf_11 (by decide) ?_
  refine pm_aload_n dX12_seasonOf_12 rfl rfl ?_
  refine pm_get fl_RX12_259_12 dX12_seasonOf_13 rfl rfl ?_
  refine pm_ishl dX12_seasonOf_16 ?_
  rw [th_sh1 (S 34) (by omega)]
  refine pm_icmp_ge (tgt := 107) dX12_seasonOf_17 (by decide) (fun c_17 => ?_) (fun c_17 => ?_)
  · refine pm_iload_n dX12_seasonOf_107 rfl rfl ?_
    refine pm_iret dX12_seasonOf_108 rfl rfl rfl ?_
    have he : n = 2 ^ S 34 := by
      rw [nI_leI (by omega) (by omega)] at c_17
      omega
    subst he
    refine th_r ?_ hQ
    rw [hp]
  · have hlt : n < 2 ^ S 34 := by
      rw [nI_leI (by omega) (by omega)] at c_17
      omega
    obtain ⟨hb8, hb10⟩ := th_bits_lt (Nat.lt_of_lt_of_le hlt (show 2 ^ S 34 ≤ 2 ^ 8 from Nat.pow_le_pow_right (by decide) h34)) 10
    have hpb := th_p10 (8 - th_bits n 10) (by omega)
    have hbb := th_bits_le be 10
    refine pm_aload_n dX12_seasonOf_20 rfl rfl ?_
    refine pm_iload_n dX12_seasonOf_21 rfl rfl ?_
    refine pm_iload dX12_seasonOf_22 rfl ?_
    refine pm_callV (M2 := m_X12_worthOfSet) (As := [_, _]) ok_X12_worthOfSet (ci := 12) rfl kw_1310 kw_1312 kw_38 dX12_seasonOf_24 rfl rfl rfl (Nat.le_of_ble_eq_true rfl) ⟨⟨Nat.le_of_ble_eq_true rfl, Nat.le_of_ble_eq_true rfl⟩, Nat.le_of_ble_eq_true rfl, Nat.le_of_ble_eq_true rfl⟩ ?_
    refine c_X12_worthOfSet hI hi (by omega) ?_
    refine pm_bipush (v := 10) dX12_seasonOf_27 (by decide) ?_
    refine pm_bipush (v := 8) dX12_seasonOf_29 (by decide) ?_
    refine pm_iload dX12_seasonOf_31 rfl ?_
    refine pm_callS (M2 := m_X12_bitsOf) (As := [_]) ok_X12_bitsOf kw_1240 kw_1241 dX12_seasonOf_33 rfl rfl (Nat.le_of_ble_eq_true rfl) ⟨⟨Nat.le_of_ble_eq_true rfl, Nat.le_of_ble_eq_true rfl⟩, Nat.le_of_ble_eq_true rfl, Nat.le_of_ble_eq_true rfl⟩ ?_
    refine c_X12_bitsOf (by omega) ?_
    refine pm_isub dX12_seasonOf_36 ?_
    rw [show (8 : Int32) - nI (th_bits n 10) = nI (8 - th_bits n 10) from pk_sub (a := 8) (by omega)]
    refine pm_callS (M2 := m_X12_power) (As := [_, _]) ok_X12_power kw_1277 kw_1278 dX12_seasonOf_37 rfl rfl (Nat.le_of_ble_eq_true rfl) ⟨⟨Nat.le_of_ble_eq_true rfl, Nat.le_of_ble_eq_true rfl⟩, Nat.le_of_ble_eq_true rfl, Nat.le_of_ble_eq_true rfl⟩ ?_
    refine c_X12_power (by omega) ?_
    refine pm_i2l dX12_seasonOf_40 ?_
    rw [th_pi10 _ (by omega), nI_l hpb.2]
    refine pm_lmul dX12_seasonOf_41 ?_
    rw [show th_wl S A i n * lN (10 ^ (8 - th_bits n 10)) = th_sv S A i n from rfl]
    refine pm_lstore (lv2 := [(6, _), (5, _), (3, _), (2, _), (0, _), (1, _)]) dX12_seasonOf_42 (Nat.le_of_ble_eq_true rfl) rfl ?_
    refine pm_lload dX12_seasonOf_44 rfl ?_
    refine pm_lload_n dX12_seasonOf_46 rfl rfl ?_
    refine pm_lcmp dX12_seasonOf_47 ?_
    refine pm_if_gt (tgt := 70) dX12_seasonOf_48 (by decide) (fun c_48 => ?_) (fun c_48 => ?_)
    · refine pm_iconst (v := 1) dX12_seasonOf_70 (by decide) ?_
      refine pm_goto (tgt := 75) dX12_seasonOf_71 (by decide) ?_
      refine pm_istore (lv2 := [(8, _), (6, _), (5, _), (3, _), (2, _), (0, _), (1, _)]) dX12_seasonOf_75 (Nat.le_of_ble_eq_true rfl) rfl ?_
      refine pm_iload dX12_seasonOf_77 rfl ?_
      refine pm_if_eq (tgt := 87) dX12_seasonOf_79 (by decide) (fun c_79 => absurd c_79 (by decide)) (fun c_79 => ?_)
      refine pm_iload dX12_seasonOf_82 rfl ?_
      refine pm_goto (tgt := 88) dX12_seasonOf_84 (by decide) ?_
      refine pm_istore_n (lv2 := [(2, _), (8, _), (6, _), (5, _), (3, _), (0, _), (1, _)]) dX12_seasonOf_88 rfl (Nat.le_of_ble_eq_true rfl) rfl ?_
      refine pm_iload dX12_seasonOf_89 rfl ?_
      refine pm_if_eq (tgt := 99) dX12_seasonOf_91 (by decide) (fun c_91 => absurd c_91 (by decide)) (fun c_91 => ?_)
      refine pm_lload dX12_seasonOf_94 rfl ?_
      refine pm_goto (tgt := 100) dX12_seasonOf_96 (by decide) ?_
      refine pm_lstore_n (lv2 := [(3, _), (2, _), (8, _), (6, _), (5, _), (0, _), (1, _)]) dX12_seasonOf_100 rfl (Nat.le_of_ble_eq_true rfl) rfl ?_
      refine pm_iinc (lv2 := [(5, _), (3, _), (2, _), (8, _), (6, _), (0, _), (1, _)]) dX12_seasonOf_101 rfl (nI_1 n) (Nat.le_of_ble_eq_true rfl) rfl ?_
      refine pm_goto (tgt := 9) dX12_seasonOf_104 (by decide) ?_
      refine pm_pick [0, 1, 2, 5, 6] rfl ?_
      exact k hlt (th_sv S A i n) n (th_sn1 hp (Or.inl (th_gt.mp c_48))) (by omega)
    · refine pm_lload dX12_seasonOf_51 rfl ?_
      refine pm_lload_n dX12_seasonOf_53 rfl rfl ?_
      refine pm_lcmp dX12_seasonOf_54 ?_
      refine pm_if_ne (tgt := 74) dX12_seasonOf_55 (by decide) (fun c_55 => ?_) (fun c_55 => ?_)
      · refine pm_iconst (v := 0) dX12_seasonOf_74 (by decide) ?_
        refine pm_istore (lv2 := [(8, _), (6, _), (5, _), (3, _), (2, _), (0, _), (1, _)]) dX12_seasonOf_75 (Nat.le_of_ble_eq_true rfl) rfl ?_
        refine pm_iload dX12_seasonOf_77 rfl ?_
        refine pm_if_eq (tgt := 87) dX12_seasonOf_79 (by decide) (fun c_79 => ?_) (fun c_79 => absurd (rfl) c_79)
        refine pm_iload_n dX12_seasonOf_87 rfl rfl ?_
        refine pm_istore_n (lv2 := [(2, _), (8, _), (6, _), (5, _), (3, _), (0, _), (1, _)]) dX12_seasonOf_88 rfl (Nat.le_of_ble_eq_true rfl) rfl ?_
        refine pm_iload dX12_seasonOf_89 rfl ?_
        refine pm_if_eq (tgt := 99) dX12_seasonOf_91 (by decide) (fun c_91 => ?_) (fun c_91 => absurd (rfl) c_91)
        refine pm_lload_n dX12_seasonOf_99 rfl rfl ?_
        refine pm_lstore_n (lv2 := [(3, _), (2, _), (8, _), (6, _), (5, _), (0, _), (1, _)]) dX12_seasonOf_100 rfl (Nat.le_of_ble_eq_true rfl) rfl ?_
        refine pm_iinc (lv2 := [(5, _), (3, _), (2, _), (8, _), (6, _), (0, _), (1, _)]) dX12_seasonOf_101 rfl (nI_1 n) (Nat.le_of_ble_eq_true rfl) rfl ?_
        refine pm_goto (tgt := 9) dX12_seasonOf_104 (by decide) ?_
        refine pm_pick [0, 1, 2, 5, 6] rfl ?_
        exact k hlt mo be (th_sn0 hp (fun z => z.elim (fun z => c_48 (th_gt.mpr z)) (fun z => c_55 (th_eq.mpr z.1)))) hbe
      · refine pm_iload dX12_seasonOf_58 rfl ?_
        refine pm_callS (M2 := m_X12_bitsOf) (As := [_]) ok_X12_bitsOf kw_1240 kw_1241 dX12_seasonOf_60 rfl rfl (Nat.le_of_ble_eq_true rfl) ⟨⟨Nat.le_of_ble_eq_true rfl, Nat.le_of_ble_eq_true rfl⟩, Nat.le_of_ble_eq_true rfl, Nat.le_of_ble_eq_true rfl⟩ ?_
        refine c_X12_bitsOf (by omega) ?_
        refine pm_iload_n dX12_seasonOf_63 rfl rfl ?_
        refine pm_callS (M2 := m_X12_bitsOf) (As := [_]) ok_X12_bitsOf kw_1240 kw_1241 dX12_seasonOf_64 rfl rfl (Nat.le_of_ble_eq_true rfl) ⟨⟨Nat.le_of_ble_eq_true rfl, Nat.le_of_ble_eq_true rfl⟩, Nat.le_of_ble_eq_true rfl, Nat.le_of_ble_eq_true rfl⟩ ?_
        refine c_X12_bitsOf (by omega) ?_
        refine pm_icmp_ge (tgt := 74) dX12_seasonOf_67 (by decide) (fun c_67 => ?_) (fun c_67 => ?_)
        · refine pm_iconst (v := 0) dX12_seasonOf_74 (by decide) ?_
          refine pm_istore (lv2 := [(8, _), (6, _), (5, _), (3, _), (2, _), (0, _), (1, _)]) dX12_seasonOf_75 (Nat.le_of_ble_eq_true rfl) rfl ?_
          refine pm_iload dX12_seasonOf_77 rfl ?_
          refine pm_if_eq (tgt := 87) dX12_seasonOf_79 (by decide) (fun c_79 => ?_) (fun c_79 => absurd (rfl) c_79)
          refine pm_iload_n dX12_seasonOf_87 rfl rfl ?_
          refine pm_istore_n (lv2 := [(2, _), (8, _), (6, _), (5, _), (3, _), (0, _), (1, _)]) dX12_seasonOf_88 rfl (Nat.le_of_ble_eq_true rfl) rfl ?_
          refine pm_iload dX12_seasonOf_89 rfl ?_
          refine pm_if_eq (tgt := 99) dX12_seasonOf_91 (by decide) (fun c_91 => ?_) (fun c_91 => absurd (rfl) c_91)
          refine pm_lload_n dX12_seasonOf_99 rfl rfl ?_
          refine pm_lstore_n (lv2 := [(3, _), (2, _), (8, _), (6, _), (5, _), (0, _), (1, _)]) dX12_seasonOf_100 rfl (Nat.le_of_ble_eq_true rfl) rfl ?_
          refine pm_iinc (lv2 := [(5, _), (3, _), (2, _), (8, _), (6, _), (0, _), (1, _)]) dX12_seasonOf_101 rfl (nI_1 n) (Nat.le_of_ble_eq_true rfl) rfl ?_
          refine pm_goto (tgt := 9) dX12_seasonOf_104 (by decide) ?_
          refine pm_pick [0, 1, 2, 5, 6] rfl ?_
          exact k hlt mo be (th_sn0 hp (fun z => z.elim (fun z => c_48 (th_gt.mpr z)) (fun z => absurd ((nI_leI (by omega) (by omega)).mp c_67) (by omega)))) hbe
        · refine pm_iconst (v := 1) dX12_seasonOf_70 (by decide) ?_
          refine pm_goto (tgt := 75) dX12_seasonOf_71 (by decide) ?_
          refine pm_istore (lv2 := [(8, _), (6, _), (5, _), (3, _), (2, _), (0, _), (1, _)]) dX12_seasonOf_75 (Nat.le_of_ble_eq_true rfl) rfl ?_
          refine pm_iload dX12_seasonOf_77 rfl ?_
          refine pm_if_eq (tgt := 87) dX12_seasonOf_79 (by decide) (fun c_79 => absurd c_79 (by decide)) (fun c_79 => ?_)
          refine pm_iload dX12_seasonOf_82 rfl ?_
          refine pm_goto (tgt := 88) dX12_seasonOf_84 (by decide) ?_
          refine pm_istore_n (lv2 := [(2, _), (8, _), (6, _), (5, _), (3, _), (0, _), (1, _)]) dX12_seasonOf_88 rfl (Nat.le_of_ble_eq_true rfl) rfl ?_
          refine pm_iload dX12_seasonOf_89 rfl ?_
          refine pm_if_eq (tgt := 99) dX12_seasonOf_91 (by decide) (fun c_91 => absurd c_91 (by decide)) (fun c_91 => ?_)
          refine pm_lload dX12_seasonOf_94 rfl ?_
          refine pm_goto (tgt := 100) dX12_seasonOf_96 (by decide) ?_
          refine pm_lstore_n (lv2 := [(3, _), (2, _), (8, _), (6, _), (5, _), (0, _), (1, _)]) dX12_seasonOf_100 rfl (Nat.le_of_ble_eq_true rfl) rfl ?_
          refine pm_iinc (lv2 := [(5, _), (3, _), (2, _), (8, _), (6, _), (0, _), (1, _)]) dX12_seasonOf_101 rfl (nI_1 n) (Nat.le_of_ble_eq_true rfl) rfl ?_
          refine pm_goto (tgt := 9) dX12_seasonOf_104 (by decide) ?_
          refine pm_pick [0, 1, 2, 5, 6] rfl ?_
          exact k hlt (th_sv S A i n) n (th_sn1 hp (Or.inr ⟨th_eq.mp c_55, Nat.lt_of_not_le (fun z => c_67 ((nI_leI (by omega) (by omega)).mpr z))⟩)) (by omega)

set_option maxHeartbeats 600000 in
set_option maxRecDepth 100000 in
theorem c_X12_season {l : Launch} {G : pm_G} {ad : Nat → Nat → Nat} {a0 a3 a4 a5 a6 a7 : List pm_A} {a1 a2 : Nat → Option pm_A} {S : Nat → Nat} {A : Nat → Nat → Int32} {s : Nat → Int32} {B : Nat → Nat → Int32} {hs : Int64} {Q : pm_T} {x : Int32} (hI : th_I S A) (hQ : Q ad (some (.int (th_seasonA S A x))) (a0, a1, a2, a3, a4, a5, a6, a7, th_mp ad S A s B hs)) : pm_C l G m_X12_season [.ref (ad 8 0), .int x] ad (a0, a1, a2, a3, a4, a5, a6, a7, th_mp ad S A s B hs) Q := by
  have h8 := hI.2.2.2.2.1.1
  have h34 := hI.2.2.2.2.2.2.1.1
  have hp2 := th_isp (n := 0) (show S 34 ≤ 10 by omega)
  refine pm_met (by decide) (Nat.le_of_ble_eq_true rfl) ?_
  refine pm_aload_n dX12_season_0 rfl rfl ?_
  refine pm_iload_n dX12_season_1 rfl rfl ?_
  refine pm_callV (M2 := m_X12_isNut) (As := [_]) ok_X12_isNut (ci := 12) rfl kw_1154 kw_1156 kw_24 dX12_season_2 rfl rfl rfl (Nat.le_of_ble_eq_true rfl) ⟨⟨Nat.le_of_ble_eq_true rfl, Nat.le_of_ble_eq_true rfl⟩, Nat.le_of_ble_eq_true rfl, Nat.le_of_ble_eq_true rfl⟩ ?_
  refine c_X12_isNut h8 (fun i hi e => ?_) (fun hn => ?_)
  · subst e
    refine pm_if_eq (tgt := 16) dX12_season_5 (by decide) (fun c_5 => absurd c_5 (by decide)) (fun c_5 => ?_)
    refine pm_aload_n dX12_season_8 rfl rfl ?_
    refine pm_iload_n dX12_season_9 rfl rfl ?_
    refine pm_callV (M2 := m_X12_seasonOf) (As := [_]) ok_X12_seasonOf (ci := 12) rfl kw_1318 kw_1320 kw_39 dX12_season_10 rfl rfl rfl (Nat.le_of_ble_eq_true rfl) ⟨⟨Nat.le_of_ble_eq_true rfl, Nat.le_of_ble_eq_true rfl⟩, Nat.le_of_ble_eq_true rfl, Nat.le_of_ble_eq_true rfl⟩ ?_
    refine c_X12_seasonOf hI hi ?_
    refine pm_goto (tgt := 18) dX12_season_13 (by decide) ?_
    refine pm_iret dX12_season_18 rfl rfl rfl ?_
    refine th_r ?_ hQ
    rw [th_seasonA, if_pos (th_okt hi (by omega)), th_n_nI (by omega)]
  · refine pm_if_eq (tgt := 16) dX12_season_5 (by decide) (fun c_5 => ?_) (fun c_5 => absurd (rfl) c_5)
    refine pm_bipush (v := (-101)) dX12_season_16 (by decide) ?_
    refine pm_iret dX12_season_18 rfl rfl rfl ?_
    refine th_r ?_ hQ
    rw [th_seasonA, if_neg (th_okf hn (by omega))]

set_option maxHeartbeats 600000 in
set_option maxRecDepth 100000 in
theorem c_X2_bestSet {l : Launch} {G : pm_G} {ad : Nat → Nat → Nat} {S : Nat → Nat} {A : Nat → Nat → Int32} {X : Nat → Int32} {Y : Nat → Nat → Int32} {F : Nat → Int64} {Hd Cs : Nat → Option Nat} {m : List pm_A} {Q : pm_T} {i ki : Nat} (hI : th_I S A) (hJ : th_J ad S A Y Cs) (hi : i < S 11) (hwi : th_g2 ad S A Y i = some (.inr (pm_kc ki, th_nf ad A Y i))) (hQ : Q ad (some (.int (nI (th_sn S A i (2 ^ S 34)).2))) (th_cw ad S A X Y F Hd Cs m)) : pm_C l G m_X2_bestSet [.ref (ad 6 0), .ref (ad 2 i), .int (nI (S 6))] ad (th_cw ad S A X Y F Hd Cs m) Q := by
  have h8 := hI.2.2.2.2.1.1
  have h34 := hI.2.2.2.2.2.2.1.1
  have hp2 := th_isp (n := 0) (show S 34 ≤ 10 by omega)
  refine pm_met (by decide) (Nat.le_of_ble_eq_true rfl) ?_
  refine pm_iconst (v := 0) dX2_bestSet_0 (by decide) ?_
  refine pm_istore_n (lv2 := [(3, _), (0, _), (1, _), (2, _)]) dX2_bestSet_1 rfl (Nat.le_of_ble_eq_true rfl) rfl ?_
  refine pm_ldc2 kw_841 dX2_bestSet_2 ?_
  refine pm_lstore (lv2 := [(4, _), (3, _), (0, _), (1, _), (2, _)]) dX2_bestSet_5 (Nat.le_of_ble_eq_true rfl) rfl ?_
  refine pm_iconst (v := 0) dX2_bestSet_7 (by decide) ?_
  refine pm_istore (lv2 := [(6, _), (4, _), (3, _), (0, _), (1, _), (2, _)]) dX2_bestSet_8 (Nat.le_of_ble_eq_true rfl) rfl ?_
  suffices H : ∀ n, n ≤ 2 ^ S 34 → ∀ mo be, th_sn S A i n = (mo, be) → be < 1024 → pm_W l G m_X2_bestSet ad 10 [(6, .int (nI n)), (4, .long mo), (3, .int (nI be)), (0, .ref (ad 6 0)), (1, .ref (ad 2 i)), (2, .int (nI (S 6)))] [] (th_cw ad S A X Y F Hd Cs m) 0 0 Q from H 0 (Nat.zero_le _) (-1) 0 rfl (by decide)
  refine th_loop _ ?_
  intro n hn k mo be hp hbe
  refine pm_iload dX2_bestSet_10 rfl ?_
  refine pm_iconst (v := 1) dX2_bestSet_12 (by decide) ?_
  refine pm_aload_n dX2_bestSet_13 rfl rfl ?_
  refine pm_get fl_RX2_24_2 dX2_bestSet_14 rfl rfl ?_
  refine pm_ishl dX2_bestSet_17 ?_
  rw [th_sh1 (S 34) (by omega)]
  refine pm_icmp_ge (tgt := 100) dX2_bestSet_18 (by decide) (fun c_18 => ?_) (fun c_18 => ?_)
  · refine pm_iload_n dX2_bestSet_100 rfl rfl ?_
    refine pm_iret dX2_bestSet_101 rfl rfl rfl ?_
    have he : n = 2 ^ S 34 := by
      rw [nI_leI (by omega) (by omega)] at c_18
      omega
    subst he
    refine th_r ?_ hQ
    rw [hp]
  · have hlt : n < 2 ^ S 34 := by
      rw [nI_leI (by omega) (by omega)] at c_18
      omega
    obtain ⟨hb8, hb10⟩ := th_bits_lt (Nat.lt_of_lt_of_le hlt (show 2 ^ S 34 ≤ 2 ^ 8 from Nat.pow_le_pow_right (by decide) h34)) 10
    have hpb := th_p10 (8 - th_bits n 10) (by omega)
    have hbb := th_bits_le be 10
    refine pm_iload dX2_bestSet_21 rfl ?_
    refine pm_callS (M2 := m_J6_bitCount_0f7a4) (As := [_]) ok_J6_bitCount_0f7a4 kw_842 kw_701 dX2_bestSet_23 rfl rfl (Nat.le_of_ble_eq_true rfl) ⟨⟨Nat.le_of_ble_eq_true rfl, Nat.le_of_ble_eq_true rfl⟩, Nat.le_of_ble_eq_true rfl, Nat.le_of_ble_eq_true rfl⟩ ?_
    refine c_bitCount (by omega) ?_
    refine pm_istore (lv2 := [(7, _), (6, _), (4, _), (3, _), (0, _), (1, _), (2, _)]) dX2_bestSet_26 (Nat.le_of_ble_eq_true rfl) rfl ?_
    refine pm_aload_n dX2_bestSet_28 rfl rfl ?_
    refine pm_aload_n dX2_bestSet_29 rfl rfl ?_
    refine pm_iload dX2_bestSet_30 rfl ?_
    refine pm_iload_n dX2_bestSet_32 rfl rfl ?_
    refine pm_callV (M2 := m_X2_worthAbove) (As := [_, _, _]) ok_X2_worthAbove (ci := 2) rfl kw_843 kw_825 kw_826 dX2_bestSet_33 rfl rfl rfl (Nat.le_of_ble_eq_true rfl) ⟨⟨Nat.le_of_ble_eq_true rfl, Nat.le_of_ble_eq_true rfl⟩, Nat.le_of_ble_eq_true rfl, Nat.le_of_ble_eq_true rfl⟩ ?_
    refine c_X2_worthAbove hI hJ hi (by omega) hwi ?_
    refine pm_ldc2 kw_844 dX2_bestSet_36 ?_
    refine pm_bipush (v := 8) dX2_bestSet_39 (by decide) ?_
    refine pm_iload dX2_bestSet_41 rfl ?_
    refine pm_isub dX2_bestSet_43 ?_
    rw [show (8 : Int32) - nI (th_bits n 10) = nI (8 - th_bits n 10) from pk_sub (a := 8) (by omega)]
    refine pm_callSN (M2 := m_X11_power) (As := [_, _]) ok_X11_power kw_845 kw_775 dX2_bestSet_44 rfl rfl (Nat.le_of_ble_eq_true rfl) ⟨⟨Nat.le_of_ble_eq_true rfl, Nat.le_of_ble_eq_true rfl⟩, Nat.le_of_ble_eq_true rfl, Nat.le_of_ble_eq_true rfl⟩ ?_
    refine c_X11_power (by omega) ?_
    rw [th_pw10 _ (by omega)]
    refine pm_lmul dX2_bestSet_47 ?_
    rw [show th_wl S A i n * lN (10 ^ (8 - th_bits n 10)) = th_sv S A i n from rfl]
    refine pm_lstore (lv2 := [(8, _), (7, _), (6, _), (4, _), (3, _), (0, _), (1, _), (2, _)]) dX2_bestSet_48 (Nat.le_of_ble_eq_true rfl) rfl ?_
    refine pm_iload dX2_bestSet_50 rfl ?_
    refine pm_iload_n dX2_bestSet_52 rfl rfl ?_
    refine pm_callS (M2 := m_J6_bitCount_0f7a4) (As := [_]) ok_J6_bitCount_0f7a4 kw_842 kw_701 dX2_bestSet_53 rfl rfl (Nat.le_of_ble_eq_true rfl) ⟨⟨Nat.le_of_ble_eq_true rfl, Nat.le_of_ble_eq_true rfl⟩, Nat.le_of_ble_eq_true rfl, Nat.le_of_ble_eq_true rfl⟩ ?_
    refine c_bitCount (by omega) ?_
    refine pm_icmp_ge (tgt := 63) dX2_bestSet_56 (by decide) (fun c_56 => ?_) (fun c_56 => ?_)
    · refine pm_iconst (v := 0) dX2_bestSet_63 (by decide) ?_
      refine pm_istore (lv2 := [(10, _), (8, _), (7, _), (6, _), (4, _), (3, _), (0, _), (1, _), (2, _)]) dX2_bestSet_64 (Nat.le_of_ble_eq_true rfl) rfl ?_
      refine pm_lload dX2_bestSet_66 rfl ?_
      refine pm_lload dX2_bestSet_68 rfl ?_
      refine pm_lcmp dX2_bestSet_70 ?_
      refine pm_if_gt (tgt := 87) dX2_bestSet_71 (by decide) (fun c_71 => ?_) (fun c_71 => ?_)
      · refine pm_lload dX2_bestSet_87 rfl ?_
        refine pm_lstore (lv2 := [(4, _), (10, _), (8, _), (7, _), (6, _), (3, _), (0, _), (1, _), (2, _)]) dX2_bestSet_89 (Nat.le_of_ble_eq_true rfl) rfl ?_
        refine pm_iload dX2_bestSet_91 rfl ?_
        refine pm_istore_n (lv2 := [(3, _), (4, _), (10, _), (8, _), (7, _), (6, _), (0, _), (1, _), (2, _)]) dX2_bestSet_93 rfl (Nat.le_of_ble_eq_true rfl) rfl ?_
        refine pm_iinc (lv2 := [(6, _), (3, _), (4, _), (10, _), (8, _), (7, _), (0, _), (1, _), (2, _)]) dX2_bestSet_94 rfl (nI_1 n) (Nat.le_of_ble_eq_true rfl) rfl ?_
        refine pm_goto (tgt := 10) dX2_bestSet_97 (by decide) ?_
        refine pm_pick [0, 2, 1, 6, 7, 8] rfl ?_
        exact k hlt (th_sv S A i n) n (th_sn1 hp (Or.inl (th_gt.mp c_71))) (by omega)
      · refine pm_lload dX2_bestSet_74 rfl ?_
        refine pm_lload dX2_bestSet_76 rfl ?_
        refine pm_lcmp dX2_bestSet_78 ?_
        refine pm_if_ne (tgt := 94) dX2_bestSet_79 (by decide) (fun c_79 => ?_) (fun c_79 => ?_)
        · refine pm_iinc (lv2 := [(6, _), (10, _), (8, _), (7, _), (4, _), (3, _), (0, _), (1, _), (2, _)]) dX2_bestSet_94 rfl (nI_1 n) (Nat.le_of_ble_eq_true rfl) rfl ?_
          refine pm_goto (tgt := 10) dX2_bestSet_97 (by decide) ?_
          refine pm_pick [0, 4, 5, 6, 7, 8] rfl ?_
          exact k hlt mo be (th_sn0 hp (fun z => z.elim (fun z => c_71 (th_gt.mpr z)) (fun z => c_79 (th_eq.mpr z.1)))) hbe
        · refine pm_iload dX2_bestSet_82 rfl ?_
          refine pm_if_eq (tgt := 94) dX2_bestSet_84 (by decide) (fun c_84 => ?_) (fun c_84 => absurd (rfl) c_84)
          refine pm_iinc (lv2 := [(6, _), (10, _), (8, _), (7, _), (4, _), (3, _), (0, _), (1, _), (2, _)]) dX2_bestSet_94 rfl (nI_1 n) (Nat.le_of_ble_eq_true rfl) rfl ?_
          refine pm_goto (tgt := 10) dX2_bestSet_97 (by decide) ?_
          refine pm_pick [0, 4, 5, 6, 7, 8] rfl ?_
          exact k hlt mo be (th_sn0 hp (fun z => z.elim (fun z => c_71 (th_gt.mpr z)) (fun z => absurd ((nI_leI (by omega) (by omega)).mp c_56) (by omega)))) hbe
    · refine pm_iconst (v := 1) dX2_bestSet_59 (by decide) ?_
      refine pm_goto (tgt := 64) dX2_bestSet_60 (by decide) ?_
      refine pm_istore (lv2 := [(10, _), (8, _), (7, _), (6, _), (4, _), (3, _), (0, _), (1, _), (2, _)]) dX2_bestSet_64 (Nat.le_of_ble_eq_true rfl) rfl ?_
      refine pm_lload dX2_bestSet_66 rfl ?_
      refine pm_lload dX2_bestSet_68 rfl ?_
      refine pm_lcmp dX2_bestSet_70 ?_
      refine pm_if_gt (tgt := 87) dX2_bestSet_71 (by decide) (fun c_71 => ?_) (fun c_71 => ?_)
      · refine pm_lload dX2_bestSet_87 rfl ?_
        refine pm_lstore (lv2 := [(4, _), (10, _), (8, _), (7, _), (6, _), (3, _), (0, _), (1, _), (2, _)]) dX2_bestSet_89 (Nat.le_of_ble_eq_true rfl) rfl ?_
        refine pm_iload dX2_bestSet_91 rfl ?_
        refine pm_istore_n (lv2 := [(3, _), (4, _), (10, _), (8, _), (7, _), (6, _), (0, _), (1, _), (2, _)]) dX2_bestSet_93 rfl (Nat.le_of_ble_eq_true rfl) rfl ?_
        refine pm_iinc (lv2 := [(6, _), (3, _), (4, _), (10, _), (8, _), (7, _), (0, _), (1, _), (2, _)]) dX2_bestSet_94 rfl (nI_1 n) (Nat.le_of_ble_eq_true rfl) rfl ?_
        refine pm_goto (tgt := 10) dX2_bestSet_97 (by decide) ?_
        refine pm_pick [0, 2, 1, 6, 7, 8] rfl ?_
        exact k hlt (th_sv S A i n) n (th_sn1 hp (Or.inl (th_gt.mp c_71))) (by omega)
      · refine pm_lload dX2_bestSet_74 rfl ?_
        refine pm_lload dX2_bestSet_76 rfl ?_
        refine pm_lcmp dX2_bestSet_78 ?_
        refine pm_if_ne (tgt := 94) dX2_bestSet_79 (by decide) (fun c_79 => ?_) (fun c_79 => ?_)
        · refine pm_iinc (lv2 := [(6, _), (10, _), (8, _), (7, _), (4, _), (3, _), (0, _), (1, _), (2, _)]) dX2_bestSet_94 rfl (nI_1 n) (Nat.le_of_ble_eq_true rfl) rfl ?_
          refine pm_goto (tgt := 10) dX2_bestSet_97 (by decide) ?_
          refine pm_pick [0, 4, 5, 6, 7, 8] rfl ?_
          exact k hlt mo be (th_sn0 hp (fun z => z.elim (fun z => c_71 (th_gt.mpr z)) (fun z => c_79 (th_eq.mpr z.1)))) hbe
        · refine pm_iload dX2_bestSet_82 rfl ?_
          refine pm_if_eq (tgt := 94) dX2_bestSet_84 (by decide) (fun c_84 => absurd c_84 (by decide)) (fun c_84 => ?_)
          refine pm_lload dX2_bestSet_87 rfl ?_
          refine pm_lstore (lv2 := [(4, _), (10, _), (8, _), (7, _), (6, _), (3, _), (0, _), (1, _), (2, _)]) dX2_bestSet_89 (Nat.le_of_ble_eq_true rfl) rfl ?_
          refine pm_iload dX2_bestSet_91 rfl ?_
          refine pm_istore_n (lv2 := [(3, _), (4, _), (10, _), (8, _), (7, _), (6, _), (0, _), (1, _), (2, _)]) dX2_bestSet_93 rfl (Nat.le_of_ble_eq_true rfl) rfl ?_
          refine pm_iinc (lv2 := [(6, _), (3, _), (4, _), (10, _), (8, _), (7, _), (0, _), (1, _), (2, _)]) dX2_bestSet_94 rfl (nI_1 n) (Nat.le_of_ble_eq_true rfl) rfl ?_
          refine pm_goto (tgt := 10) dX2_bestSet_97 (by decide) ?_
          refine pm_pick [0, 2, 1, 6, 7, 8] rfl ?_
          exact k hlt (th_sv S A i n) n (th_sn1 hp (Or.inr ⟨th_eq.mp c_79, Nat.lt_of_not_le (fun z => c_56 ((nI_leI (by omega) (by omega)).mpr z))⟩)) (by omega)

set_option maxHeartbeats 600000 in
set_option maxRecDepth 100000 in
theorem c_X11_season {l : Launch} {G : pm_G} {ad : Nat → Nat → Nat} {S : Nat → Nat} {A : Nat → Nat → Int32} {X : Nat → Int32} {Y : Nat → Nat → Int32} {F : Nat → Int64} {Hd Cs : Nat → Option Nat} {m : List pm_A} {Q : pm_T} {x : Int32} (hI : th_I S A) (hJ : th_J ad S A Y Cs) (hQ : Q ad (some (.int (th_seasonA S A x))) (th_cw ad S A X Y F Hd Cs m)) : pm_C l G m_X11_season [.ref (ad 0 0), .int x] ad (th_cw ad S A X Y F Hd Cs m) Q := by
  have h8 := hI.2.2.2.2.1.1
  have h34 := hI.2.2.2.2.2.2.1.1
  have hp2 := th_isp (n := 0) (show S 34 ≤ 10 by omega)
  refine pm_met (by decide) (Nat.le_of_ble_eq_true rfl) ?_
  refine pm_aload_n dX11_season_0 rfl rfl ?_
  refine pm_iload_n dX11_season_1 rfl rfl ?_
  refine pm_callV (M2 := m_X11_nutOf) (As := [_]) ok_X11_nutOf (ci := 11) rfl kw_545 kw_547 kw_5 dX11_season_2 rfl rfl rfl (Nat.le_of_ble_eq_true rfl) ⟨⟨Nat.le_of_ble_eq_true rfl, Nat.le_of_ble_eq_true rfl⟩, Nat.le_of_ble_eq_true rfl, Nat.le_of_ble_eq_true rfl⟩ ?_
  refine c_X11_nutOf h8 (fun i hi e => ?_) (fun hn => ?_)
  · subst e
    obtain ⟨⟨ki, hki, eki⟩, ⟨si, hsi, esi⟩, -⟩ := th_nk hI hi
    have hwi : th_g2 ad S A Y i = some (.inr (pm_kc (th_n (A 6 i)), th_nf ad A Y i)) := th_nt_get hi
    rw [eki, th_n_nI (by omega)] at hwi
    refine pm_astore_n (lv2 := [(2, _), (0, _), (1, _)]) dX11_season_5 rfl (Nat.le_of_ble_eq_true rfl) rfl ?_
    refine pm_aload_n dX11_season_6 rfl rfl ?_
    refine pm_ifnonnull (tgt := 15) dX11_season_7 (by decide) ?_
    refine pm_aload_n dX11_season_15 rfl rfl ?_
    refine pm_get fl_RX11_52_11 dX11_season_16 rfl rfl ?_
    refine pm_aload_n dX11_season_19 rfl rfl ?_
    refine pm_aload_n dX11_season_20 rfl rfl ?_
    refine pm_get fl_RX11_60_11 dX11_season_21 rfl rfl ?_
    refine pm_callV (M2 := m_X2_bestSet) (As := [_, _]) ok_X2_bestSet (ci := 2) rfl kw_837 kw_838 kw_839 dX11_season_24 rfl rfl rfl (Nat.le_of_ble_eq_true rfl) ⟨⟨Nat.le_of_ble_eq_true rfl, Nat.le_of_ble_eq_true rfl⟩, Nat.le_of_ble_eq_true rfl, Nat.le_of_ble_eq_true rfl⟩ ?_
    refine c_X2_bestSet hI hJ hi hwi ?_
    refine pm_iret dX11_season_27 rfl rfl rfl ?_
    refine th_r ?_ hQ
    rw [th_seasonA, if_pos (th_okt hi (by omega)), th_n_nI (by omega)]
  · refine pm_nstore_n (lv2 := [(2, _), (0, _), (1, _)]) dX11_season_5 rfl (Nat.le_of_ble_eq_true rfl) rfl ?_
    refine pm_nload_n dX11_season_6 rfl rfl ?_
    refine pm_ifnonnullN dX11_season_7 ?_
    refine pm_bipush (v := (-101)) dX11_season_10 (by decide) ?_
    refine pm_goto (tgt := 27) dX11_season_12 (by decide) ?_
    refine pm_iret dX11_season_27 rfl rfl rfl ?_
    refine th_r ?_ hQ
    rw [th_seasonA, if_neg (th_okf hn (by omega))]

