def th_mo (S : Nat → Nat) (A : Nat → Nat → Int32) (i : Nat) (z : Int32) : Nat → Int32
  | 0 => -1
  | n + 1 => if th_ok? S A n = true ∧ nI (th_ls S A n) ≤ z then (if th_mo S A i z n < th_tt S A n i then th_tt S A n i else th_mo S A i z n) else th_mo S A i z n
def th_mostA (S : Nat → Nat) (A : Nat → Nat → Int32) (x z : Int32) : Int32 := if th_ok x (S 11) then (if 0 ≤ z ∧ z ≤ 18 then th_mo S A (th_n x) z (2 ^ S 26) else -102) else -101
theorem th_mo0 {S : Nat → Nat} {A : Nat → Nat → Int32} {i n : Nat} {z : Int32} (h : ¬ (th_ok? S A n = true ∧ nI (th_ls S A n) ≤ z)) : th_mo S A i z (n + 1) = th_mo S A i z n := by rw [th_mo, if_neg h]
theorem th_mo1 {S : Nat → Nat} {A : Nat → Nat → Int32} {i n : Nat} {z : Int32} (h : th_ok? S A n = true ∧ nI (th_ls S A n) ≤ z) : th_mo S A i z (n + 1) = (if th_mo S A i z n < th_tt S A n i then th_tt S A n i else th_mo S A i z n) := by rw [th_mo, if_pos h]
def th_wh (S : Nat → Nat) (A : Nat → Nat → Int32) (f L : Nat) : Nat → Nat
  | 0 => 0
  | n + 1 => th_wh S A f L n + (if n / 2 ^ f % 2 = 0 ∧ th_ok? S A n = true ∧ th_ls S A n = L then 1 else 0)
theorem th_wh0 {S : Nat → Nat} {A : Nat → Nat → Int32} {f L n : Nat} (h : ¬ (n / 2 ^ f % 2 = 0 ∧ th_ok? S A n = true ∧ th_ls S A n = L)) : th_wh S A f L (n + 1) = th_wh S A f L n := by rw [th_wh, if_neg h, Nat.add_zero]
theorem th_wh1 {S : Nat → Nat} {A : Nat → Nat → Int32} {f L n : Nat} (h : n / 2 ^ f % 2 = 0 ∧ th_ok? S A n = true ∧ th_ls S A n = L) : th_wh S A f L (n + 1) = th_wh S A f L n + 1 := by rw [th_wh, if_pos h]
def th_whoseA (S : Nat → Nat) (A : Nat → Nat → Int32) (x : Int32) : Int32 := if th_ok x (S 26) then (match th_fw S A (2 ^ S 26) with
  | none => 0
  | some p => nI (th_wh S A (th_n x) p.1 (2 ^ S 26))) else -101
theorem th_tt_lt (a b : Int32) : ¬ a ≤ b → b < a := Int32.not_le.mp
set_option maxHeartbeats 600000 in
set_option maxRecDepth 100000 in
theorem c_X12_most {l : Launch} {G : pm_G} {ad : Nat → Nat → Nat} {a0 a3 a4 a5 a6 a7 : List pm_A} {a1 a2 : Nat → Option pm_A} {S : Nat → Nat} {A : Nat → Nat → Int32} {s : Nat → Int32} {B : Nat → Nat → Int32} {hs : Int64} {Q : pm_T} {x z : Int32} (hI : th_I S A) (hQ : ∀ B2, Q ad (some (.int (th_mostA S A x z))) (a0, a1, a2, a3, a4, a5, a6, a7, th_mp ad S A s B2 hs)) : pm_C l G m_X12_most [.ref (ad 8 0), .int x, .int z] ad (a0, a1, a2, a3, a4, a5, a6, a7, th_mp ad S A s B hs) Q := by
  have h8 := hI.2.2.2.2.1.1
  have h10 := hI.2.2.2.2.2.1.1
  have hp2 := th_isp (n := 0) h10
  refine pm_met (by decide) (Nat.le_of_ble_eq_true rfl) ?_
  refine pm_aload_n dX12_most_0 rfl rfl ?_
  refine pm_iload_n dX12_most_1 rfl rfl ?_
  refine pm_callV (M2 := m_X12_isNut) (As := [_]) ok_X12_isNut (ci := 12) rfl kw_1154 kw_1156 kw_24 dX12_most_2 rfl rfl rfl (Nat.le_of_ble_eq_true rfl) ⟨⟨Nat.le_of_ble_eq_true rfl, Nat.le_of_ble_eq_true rfl⟩, Nat.le_of_ble_eq_true rfl, Nat.le_of_ble_eq_true rfl⟩ ?_
  refine c_X12_isNut h8 (fun i hi e => ?_) (fun hn => ?_)
  · subst e
    refine pm_if_ne (tgt := 11) dX12_most_5 (by decide) (fun c_5 => ?_) (fun c_5 => absurd c_5 (by decide))
    refine pm_iload_n dX12_most_11 rfl rfl ?_
    refine pm_i2l dX12_most_12 ?_
    refine pm_lconst (v := 0) dX12_most_13 (by decide) ?_
    refine pm_ldc2 kw_1247 dX12_most_14 ?_
    refine pm_callS (M2 := m_X12_in) (As := [_, _, _]) ok_X12_in kw_1115 kw_1116 dX12_most_17 rfl rfl (Nat.le_of_ble_eq_true rfl) ⟨⟨Nat.le_of_ble_eq_true rfl, Nat.le_of_ble_eq_true rfl⟩, Nat.le_of_ble_eq_true rfl, Nat.le_of_ble_eq_true rfl⟩ ?_
    refine c_X12_in32 (lo := 0) (hi := 18) rfl rfl (fun u v => ?_) (fun u => ?_)
    · refine pm_if_ne (tgt := 26) dX12_most_20 (by decide) (fun c_20 => ?_) (fun c_20 => absurd c_20 (by decide))
      refine pm_iconst (v := (-1)) dX12_most_26 (by decide) ?_
      refine pm_istore_n (lv2 := [(3, _), (0, _), (1, _), (2, _)]) dX12_most_27 rfl (Nat.le_of_ble_eq_true rfl) rfl ?_
      refine pm_iconst (v := 0) dX12_most_28 (by decide) ?_
      refine pm_istore (lv2 := [(4, _), (3, _), (0, _), (1, _), (2, _)]) dX12_most_29 (Nat.le_of_ble_eq_true rfl) rfl ?_
      suffices H : ∀ n, n ≤ 2 ^ S 26 → ∀ t, pm_W l G m_X12_most ad 31 [(4, .int (nI n)), (3, .int (th_mo S A i z n)), (0, .ref (ad 8 0)), (1, .int (nI i)), (2, .int z)] [] (a0, a1, a2, a3, a4, a5, a6, a7, th_mp ad S A s (va_up B 17 t) hs) 0 0 Q from H 0 (Nat.zero_le _) (B 17)
      refine th_loop _ ?_
      intro n hn k t
      refine pm_iload dX12_most_31 rfl ?_
      refine pm_iconst (v := 1) dX12_most_33 (by decide) ?_
      refine pm_aload_n dX12_most_34 rfl rfl ?_
      refine pm_get fl_RX12_193_12 dX12_most_35 rfl rfl ?_
      refine pm_ishl dX12_most_38 ?_
      rw [th_sh1 (S 26) (by omega)]
      refine pm_icmp_ge (tgt := 88) dX12_most_39 (by decide) (fun c_39 => ?_) (fun c_39 => ?_)
      · refine pm_iload_n dX12_most_88 rfl rfl ?_
        refine pm_iret dX12_most_89 rfl rfl rfl ?_
        have he : n = 2 ^ S 26 := by
          rw [nI_leI (by omega) (by omega)] at c_39
          omega
        subst he
        refine th_r ?_ (hQ (va_up B 17 t))
        rw [th_mostA, if_pos (th_okt hi (by omega)), if_pos ⟨u, v⟩, th_n_nI (by omega)]
      · have hlt : n < 2 ^ S 26 := by
          rw [nI_leI (by omega) (by omega)] at c_39
          omega
        refine pm_aload_n dX12_most_42 rfl rfl ?_
        refine pm_iload dX12_most_43 rfl ?_
        refine pm_callV (M2 := m_X12_layBy) (As := [_]) ok_X12_layBy (ci := 12) rfl kw_1224 kw_1226 kw_32 dX12_most_45 rfl rfl rfl (Nat.le_of_ble_eq_true rfl) ⟨⟨Nat.le_of_ble_eq_true rfl, Nat.le_of_ble_eq_true rfl⟩, Nat.le_of_ble_eq_true rfl, Nat.le_of_ble_eq_true rfl⟩ ?_
        refine c_X12_layBy (B := va_up B 17 t) hI (by omega) (fun t ht => ?_)
        cases hk : (th_lb A (S 6) n (S 26)).1
        · refine pm_if_eq (tgt := 82) dX12_most_48 (by decide) (fun c_48 => ?_) (fun c_48 => absurd (rfl) c_48)
          refine pm_iinc (lv2 := [(4, _), (3, _), (0, _), (1, _), (2, _)]) dX12_most_82 rfl (nI_1 n) (Nat.le_of_ble_eq_true rfl) rfl ?_
          refine pm_goto (tgt := 31) dX12_most_85 (by decide) ?_
          refine pm_pick [0, 1, 2, 3, 4] rfl ?_
          have k2 := k hlt t
          rw [th_mo0 (fun z => absurd (hk.symm.trans z.1) (by decide))] at k2
          exact k2
        · refine pm_if_eq (tgt := 82) dX12_most_48 (by decide) (fun c_48 => absurd c_48 (by decide)) (fun c_48 => ?_)
          refine pm_aload_n dX12_most_51 rfl rfl ?_
          refine pm_iload dX12_most_52 rfl ?_
          refine pm_callV (M2 := m_X12_liesOf) (As := [_]) ok_X12_liesOf (ci := 12) rfl kw_1236 kw_1238 kw_34 dX12_most_54 rfl rfl rfl (Nat.le_of_ble_eq_true rfl) ⟨⟨Nat.le_of_ble_eq_true rfl, Nat.le_of_ble_eq_true rfl⟩, Nat.le_of_ble_eq_true rfl, Nat.le_of_ble_eq_true rfl⟩ ?_
          refine c_X12_liesOf hI hlt ht ?_
          refine pm_iload_n dX12_most_57 rfl rfl ?_
          refine pm_icmp_gt (tgt := 82) dX12_most_58 (by decide) (fun c_58 => ?_) (fun c_58 => ?_)
          · refine pm_iinc (lv2 := [(4, _), (3, _), (0, _), (1, _), (2, _)]) dX12_most_82 rfl (nI_1 n) (Nat.le_of_ble_eq_true rfl) rfl ?_
            refine pm_goto (tgt := 31) dX12_most_85 (by decide) ?_
            refine pm_pick [0, 1, 2, 3, 4] rfl ?_
            have k2 := k hlt t
            rw [th_mo0 (fun q => absurd c_58 (Int32.not_lt.mpr q.2))] at k2
            exact k2
          · refine pm_aload_n dX12_most_61 rfl rfl ?_
            refine pm_get fl_RX12_59_12 dX12_most_62 rfl rfl ?_
            refine pm_iload_n dX12_most_65 rfl rfl ?_
            refine pm_iald dX12_most_66 rfl (th_in (by omega) (by decide)) ?_
            rw [th_cl (by omega)]
            refine pm_iload_n dX12_most_67 rfl rfl ?_
            refine pm_icmp_le (tgt := 80) dX12_most_68 (by decide) (fun c_68 => ?_) (fun c_68 => ?_)
            · refine pm_iload_n dX12_most_80 rfl rfl ?_
              refine pm_istore_n (lv2 := [(3, _), (4, _), (0, _), (1, _), (2, _)]) dX12_most_81 rfl (Nat.le_of_ble_eq_true rfl) rfl ?_
              refine pm_iinc (lv2 := [(4, _), (3, _), (0, _), (1, _), (2, _)]) dX12_most_82 rfl (nI_1 n) (Nat.le_of_ble_eq_true rfl) rfl ?_
              refine pm_goto (tgt := 31) dX12_most_85 (by decide) ?_
              refine pm_pick [0, 1, 2, 3, 4] rfl ?_
              have c68 : t i ≤ th_mo S A i z n := c_68
              have k2 := k hlt t
              rw [th_mo1 ⟨hk, Int32.not_lt.mp c_58⟩, show th_tt S A n i = t i from (ht i hi).symm, if_neg (Int32.not_lt.mpr c68)] at k2
              exact k2
            · refine pm_aload_n dX12_most_71 rfl rfl ?_
              refine pm_get fl_RX12_59_12 dX12_most_72 rfl rfl ?_
              refine pm_iload_n dX12_most_75 rfl rfl ?_
              refine pm_iald dX12_most_76 rfl (th_in (by omega) (by decide)) ?_
              rw [th_cl (by omega)]
              refine pm_goto (tgt := 81) dX12_most_77 (by decide) ?_
              refine pm_istore_n (lv2 := [(3, _), (4, _), (0, _), (1, _), (2, _)]) dX12_most_81 rfl (Nat.le_of_ble_eq_true rfl) rfl ?_
              refine pm_iinc (lv2 := [(4, _), (3, _), (0, _), (1, _), (2, _)]) dX12_most_82 rfl (nI_1 n) (Nat.le_of_ble_eq_true rfl) rfl ?_
              refine pm_goto (tgt := 31) dX12_most_85 (by decide) ?_
              refine pm_pick [0, 1, 2, 3, 4] rfl ?_
              have c68 : ¬ t i ≤ th_mo S A i z n := c_68
              have k2 := k hlt t
              rw [th_mo1 ⟨hk, Int32.not_lt.mp c_58⟩, show th_tt S A n i = t i from (ht i hi).symm, if_pos (Int32.not_le.mp c68)] at k2
              exact k2
    · refine pm_if_ne (tgt := 26) dX12_most_20 (by decide) (fun c_20 => absurd (rfl) c_20) (fun c_20 => ?_)
      refine pm_bipush (v := (-102)) dX12_most_23 (by decide) ?_
      refine pm_iret dX12_most_25 rfl rfl rfl ?_
      refine th_r ?_ (hQ B)
      rw [th_mostA, if_pos (th_okt hi (by omega)), if_neg u]
  · refine pm_if_ne (tgt := 11) dX12_most_5 (by decide) (fun c_5 => absurd (rfl) c_5) (fun c_5 => ?_)
    refine pm_bipush (v := (-101)) dX12_most_8 (by decide) ?_
    refine pm_iret dX12_most_10 rfl rfl rfl ?_
    refine th_r ?_ (hQ B)
    rw [th_mostA, if_neg (th_okf hn (by omega))]

set_option maxHeartbeats 600000 in
set_option maxRecDepth 100000 in
theorem c_X3_greatestCount {l : Launch} {G : pm_G} {ad : Nat → Nat → Nat} {S : Nat → Nat} {A : Nat → Nat → Int32} {X : Nat → Int32} {Y : Nat → Nat → Int32} {F : Nat → Int64} {Hd Cs : Nat → Option Nat} {m : List pm_A} {Q : pm_T} {i ki : Nat} {z : Int32} (hI : th_I S A) (hT : th_T S A Y) (hi : i < S 11) (hwi : th_g2 ad S A Y i = some (.inr (pm_kc ki, th_nf ad A Y i))) (hQ : ∀ t, Q ad (some (.int (th_mo S A i z (2 ^ S 26)))) (th_cw ad S A X (va_up Y 4 t) F Hd Cs m)) : pm_C l G m_X3_greatestCount [.ref (ad 4 0), .ref (ad 2 i), .int z, .ref (ad 0 2), .int (nI (S 6))] ad (th_cw ad S A X Y F Hd Cs m) Q := by
  have h8 := hI.2.2.2.2.1.1
  have h10 := hI.2.2.2.2.2.1.1
  have hp2 := th_isp (n := 0) h10
  refine pm_met (by decide) (Nat.le_of_ble_eq_true rfl) ?_
  refine pm_iconst (v := (-1)) dX3_greatestCount_0 (by decide) ?_
  refine pm_istore (lv2 := [(5, _), (0, _), (1, _), (2, _), (3, _), (4, _)]) dX3_greatestCount_1 (Nat.le_of_ble_eq_true rfl) rfl ?_
  refine pm_iconst (v := 0) dX3_greatestCount_3 (by decide) ?_
  refine pm_istore (lv2 := [(6, _), (5, _), (0, _), (1, _), (2, _), (3, _), (4, _)]) dX3_greatestCount_4 (Nat.le_of_ble_eq_true rfl) rfl ?_
  suffices H : ∀ n, n ≤ 2 ^ S 26 → ∀ t, pm_W l G m_X3_greatestCount ad 6 [(6, .int (nI n)), (5, .int (th_mo S A i z n)), (0, .ref (ad 4 0)), (1, .ref (ad 2 i)), (2, .int z), (3, .ref (ad 0 2)), (4, .int (nI (S 6)))] [] (th_cw ad S A X (va_up Y 4 t) F Hd Cs m) 0 0 Q from H 0 (Nat.zero_le _) (Y 4)
  refine th_loop _ ?_
  intro n hn k t
  refine pm_iload dX3_greatestCount_6 rfl ?_
  refine pm_iconst (v := 1) dX3_greatestCount_8 (by decide) ?_
  refine pm_aload_n dX3_greatestCount_9 rfl rfl ?_
  refine pm_get fl_RX3_24_3 dX3_greatestCount_10 rfl rfl ?_
  refine pm_ishl dX3_greatestCount_13 ?_
  rw [th_sh1 (S 26) (by omega)]
  refine pm_icmp_ge (tgt := 58) dX3_greatestCount_14 (by decide) (fun c_14 => ?_) (fun c_14 => ?_)
  · refine pm_iload dX3_greatestCount_58 rfl ?_
    refine pm_iret dX3_greatestCount_60 rfl rfl rfl ?_
    have he : n = 2 ^ S 26 := by
      rw [nI_leI (by omega) (by omega)] at c_14
      omega
    subst he
    exact hQ t
  · have hlt : n < 2 ^ S 26 := by
      rw [nI_leI (by omega) (by omega)] at c_14
      omega
    refine pm_aload_n dX3_greatestCount_17 rfl rfl ?_
    refine pm_iload dX3_greatestCount_18 rfl ?_
    refine pm_aload_n dX3_greatestCount_20 rfl rfl ?_
    refine pm_iload dX3_greatestCount_21 rfl ?_
    refine pm_callV (M2 := m_X3_follow) (As := [_, _, _]) ok_X3_follow (ci := 3) rfl kw_695 kw_675 kw_676 dX3_greatestCount_23 rfl rfl rfl (Nat.le_of_ble_eq_true rfl) ⟨⟨Nat.le_of_ble_eq_true rfl, Nat.le_of_ble_eq_true rfl⟩, Nat.le_of_ble_eq_true rfl, Nat.le_of_ble_eq_true rfl⟩ ?_
    refine c_X3_follow (Y := va_up Y 4 t) hI hT (by omega) (fun hk t ht => ?_) (fun hk t => ?_)
    · refine pm_if_eq (tgt := 52) dX3_greatestCount_26 (by decide) (fun c_26 => absurd c_26 (by decide)) (fun c_26 => ?_)
      refine pm_aload_n dX3_greatestCount_29 rfl rfl ?_
      refine pm_iload dX3_greatestCount_30 rfl ?_
      refine pm_aload_n dX3_greatestCount_32 rfl rfl ?_
      refine pm_callV (M2 := m_X3_liesOf) (As := [_, _]) ok_X3_liesOf (ci := 3) rfl kw_696 kw_698 kw_9 dX3_greatestCount_33 rfl rfl rfl (Nat.le_of_ble_eq_true rfl) ⟨⟨Nat.le_of_ble_eq_true rfl, Nat.le_of_ble_eq_true rfl⟩, Nat.le_of_ble_eq_true rfl, Nat.le_of_ble_eq_true rfl⟩ ?_
      refine c_X3_liesOf (Y := Y) hI hlt ht ?_
      refine pm_iload_n dX3_greatestCount_36 rfl rfl ?_
      refine pm_icmp_gt (tgt := 52) dX3_greatestCount_37 (by decide) (fun c_37 => ?_) (fun c_37 => ?_)
      · refine pm_iinc (lv2 := [(6, _), (5, _), (0, _), (1, _), (2, _), (3, _), (4, _)]) dX3_greatestCount_52 rfl (nI_1 n) (Nat.le_of_ble_eq_true rfl) rfl ?_
        refine pm_goto (tgt := 6) dX3_greatestCount_55 (by decide) ?_
        refine pm_pick [0, 1, 2, 3, 4, 5, 6] rfl ?_
        have k2 := k hlt t
        rw [th_mo0 (fun q => absurd c_37 (Int32.not_lt.mpr q.2))] at k2
        exact k2
      · refine pm_iload dX3_greatestCount_40 rfl ?_
        refine pm_aload_n dX3_greatestCount_42 rfl rfl ?_
        refine pm_aload_n dX3_greatestCount_43 rfl rfl ?_
        refine pm_callV (M2 := m_X3_followedCount) (As := [_]) ok_X3_followedCount (ci := 3) rfl kw_714 kw_684 kw_685 dX3_greatestCount_44 rfl rfl rfl (Nat.le_of_ble_eq_true rfl) ⟨⟨Nat.le_of_ble_eq_true rfl, Nat.le_of_ble_eq_true rfl⟩, Nat.le_of_ble_eq_true rfl, Nat.le_of_ble_eq_true rfl⟩ ?_
        refine c_X3_followedCount (t := t) (Y := Y) (by omega) hwi ?_
        refine pm_max kw_715 kw_369 kw_54 kw_370 (Nat.le_of_ble_eq_true rfl) (Nat.le_of_ble_eq_true rfl) (Nat.le_of_ble_eq_true rfl) (Nat.le_of_ble_eq_true rfl) dX3_greatestCount_47 ?_
        refine pm_istore (lv2 := [(5, _), (6, _), (0, _), (1, _), (2, _), (3, _), (4, _)]) dX3_greatestCount_50 (Nat.le_of_ble_eq_true rfl) rfl ?_
        refine pm_iinc (lv2 := [(6, _), (5, _), (0, _), (1, _), (2, _), (3, _), (4, _)]) dX3_greatestCount_52 rfl (nI_1 n) (Nat.le_of_ble_eq_true rfl) rfl ?_
        refine pm_goto (tgt := 6) dX3_greatestCount_55 (by decide) ?_
        refine pm_pick [0, 1, 2, 3, 4, 5, 6] rfl ?_
        have k2 := k hlt t
        rw [th_mo1 ⟨hk, Int32.not_lt.mp c_37⟩, show th_tt S A n i = t i from (ht i hi).symm] at k2
        exact k2
    · refine pm_if_eq (tgt := 52) dX3_greatestCount_26 (by decide) (fun c_26 => ?_) (fun c_26 => absurd (rfl) c_26)
      refine pm_iinc (lv2 := [(6, _), (5, _), (0, _), (1, _), (2, _), (3, _), (4, _)]) dX3_greatestCount_52 rfl (nI_1 n) (Nat.le_of_ble_eq_true rfl) rfl ?_
      refine pm_goto (tgt := 6) dX3_greatestCount_55 (by decide) ?_
      refine pm_pick [0, 1, 2, 3, 4, 5, 6] rfl ?_
      have k2 := k hlt t
      rw [th_mo0 (fun z => absurd (hk.symm.trans z.1) (by decide))] at k2
      exact k2

set_option maxHeartbeats 600000 in
set_option maxRecDepth 100000 in
theorem c_X11_most {l : Launch} {G : pm_G} {ad : Nat → Nat → Nat} {S : Nat → Nat} {A : Nat → Nat → Int32} {X : Nat → Int32} {Y : Nat → Nat → Int32} {F : Nat → Int64} {Hd Cs : Nat → Option Nat} {m : List pm_A} {Q : pm_T} {x z : Int32} (hI : th_I S A) (hT : th_T S A Y) (hQ : ∀ t, Q ad (some (.int (th_mostA S A x z))) (th_cw ad S A X (va_up Y 4 t) F Hd Cs m)) : pm_C l G m_X11_most [.ref (ad 0 0), .int x, .int z] ad (th_cw ad S A X Y F Hd Cs m) Q := by
  have h8 := hI.2.2.2.2.1.1
  have h10 := hI.2.2.2.2.2.1.1
  have hp2 := th_isp (n := 0) h10
  refine pm_met (by decide) (Nat.le_of_ble_eq_true rfl) ?_
  refine pm_aload_n dX11_most_0 rfl rfl ?_
  refine pm_iload_n dX11_most_1 rfl rfl ?_
  refine pm_callV (M2 := m_X11_nutOf) (As := [_]) ok_X11_nutOf (ci := 11) rfl kw_545 kw_547 kw_5 dX11_most_2 rfl rfl rfl (Nat.le_of_ble_eq_true rfl) ⟨⟨Nat.le_of_ble_eq_true rfl, Nat.le_of_ble_eq_true rfl⟩, Nat.le_of_ble_eq_true rfl, Nat.le_of_ble_eq_true rfl⟩ ?_
  refine c_X11_nutOf h8 (fun i hi e => ?_) (fun hn => ?_)
  · subst e
    obtain ⟨⟨ki, hki, eki⟩, ⟨si, hsi, esi⟩, -⟩ := th_nk hI hi
    have hwi : th_g2 ad S A Y i = some (.inr (pm_kc (th_n (A 6 i)), th_nf ad A Y i)) := th_nt_get hi
    rw [eki, th_n_nI (by omega)] at hwi
    refine pm_astore_n (lv2 := [(3, _), (0, _), (1, _), (2, _)]) dX11_most_5 rfl (Nat.le_of_ble_eq_true rfl) rfl ?_
    refine pm_aload_n dX11_most_6 rfl rfl ?_
    refine pm_ifnonnull (tgt := 13) dX11_most_7 (by decide) ?_
    refine pm_iload_n dX11_most_13 rfl rfl ?_
    refine pm_iconst (v := 0) dX11_most_14 (by decide) ?_
    refine pm_bipush (v := 18) dX11_most_15 (by decide) ?_
    refine pm_callS (M2 := m_X11_isOutside) (As := [_, _, _]) ok_X11_isOutside kw_361 kw_362 dX11_most_17 rfl rfl (Nat.le_of_ble_eq_true rfl) ⟨⟨Nat.le_of_ble_eq_true rfl, Nat.le_of_ble_eq_true rfl⟩, Nat.le_of_ble_eq_true rfl, Nat.le_of_ble_eq_true rfl⟩ ?_
    refine c_X11_isOutside (fun u => ?_) (fun u v => ?_)
    · refine pm_if_eq (tgt := 28) dX11_most_20 (by decide) (fun c_20 => absurd c_20 (by decide)) (fun c_20 => ?_)
      refine pm_bipush (v := (-102)) dX11_most_23 (by decide) ?_
      refine pm_goto (tgt := 45) dX11_most_25 (by decide) ?_
      refine pm_iret dX11_most_45 rfl rfl rfl ?_
      refine th_r ?_ (hQ (Y 4))
      rw [th_mostA, if_pos (th_okt hi (by omega)), if_neg u]
    · refine pm_if_eq (tgt := 28) dX11_most_20 (by decide) (fun c_20 => ?_) (fun c_20 => absurd (rfl) c_20)
      refine pm_aload_n dX11_most_28 rfl rfl ?_
      refine pm_get fl_RX11_38_11 dX11_most_29 rfl rfl ?_
      refine pm_aload_n dX11_most_32 rfl rfl ?_
      refine pm_iload_n dX11_most_33 rfl rfl ?_
      refine pm_aload_n dX11_most_34 rfl rfl ?_
      refine pm_get fl_RX11_24_11 dX11_most_35 rfl rfl ?_
      refine pm_aload_n dX11_most_38 rfl rfl ?_
      refine pm_get fl_RX11_60_11 dX11_most_39 rfl rfl ?_
      refine pm_callV (M2 := m_X3_greatestCount) (As := [_, _, _, _]) ok_X3_greatestCount (ci := 3) rfl kw_710 kw_711 kw_712 dX11_most_42 rfl rfl rfl (Nat.le_of_ble_eq_true rfl) ⟨⟨Nat.le_of_ble_eq_true rfl, Nat.le_of_ble_eq_true rfl⟩, Nat.le_of_ble_eq_true rfl, Nat.le_of_ble_eq_true rfl⟩ ?_
      refine c_X3_greatestCount hI hT hi hwi (fun t => ?_)
      refine pm_iret dX11_most_45 rfl rfl rfl ?_
      refine th_r ?_ (hQ t)
      rw [th_mostA, if_pos (th_okt hi (by omega)), if_pos ⟨u, v⟩, th_n_nI (by omega)]
  · refine pm_nstore_n (lv2 := [(3, _), (0, _), (1, _), (2, _)]) dX11_most_5 rfl (Nat.le_of_ble_eq_true rfl) rfl ?_
    refine pm_nload_n dX11_most_6 rfl rfl ?_
    refine pm_ifnonnullN dX11_most_7 ?_
    refine pm_bipush (v := (-101)) dX11_most_10 (by decide) ?_
    refine pm_iret dX11_most_12 rfl rfl rfl ?_
    refine th_r ?_ (hQ (Y 4))
    rw [th_mostA, if_neg (th_okf hn (by omega))]

theorem th_wh_le {S : Nat → Nat} {A : Nat → Nat → Int32} {f L : Nat} : ∀ n, th_wh S A f L n ≤ n := by
  intro n
  induction n with
  | zero => exact Nat.le_refl 0
  | succ n ih =>
    by_cases h : n / 2 ^ f % 2 = 0 ∧ th_ok? S A n = true ∧ th_ls S A n = L
    · rw [th_wh1 h]; omega
    · rw [th_wh0 h]; omega
set_option maxHeartbeats 600000 in
set_option maxRecDepth 100000 in
theorem c_X12_whose {l : Launch} {G : pm_G} {ad : Nat → Nat → Nat} {a0 a3 a4 a5 a6 a7 : List pm_A} {a1 a2 : Nat → Option pm_A} {S : Nat → Nat} {A : Nat → Nat → Int32} {s : Nat → Int32} {B : Nat → Nat → Int32} {hs : Int64} {Q : pm_T} {x : Int32} (hI : th_I S A) (hQ : ∀ s2 B2, Q ad (some (.int (th_whoseA S A x))) (a0, a1, a2, a3, a4, a5, a6, a7, th_mp ad S A s2 B2 hs)) : pm_C l G m_X12_whose [.ref (ad 8 0), .int x] ad (a0, a1, a2, a3, a4, a5, a6, a7, th_mp ad S A s B hs) Q := by
  have h8 := hI.2.2.2.2.1.1
  have h10 := hI.2.2.2.2.2.1.1
  have hp2 := th_isp (n := 0) h10
  refine pm_met (by decide) (Nat.le_of_ble_eq_true rfl) ?_
  refine pm_iload_n dX12_whose_0 rfl rfl ?_
  refine pm_i2l dX12_whose_1 ?_
  refine pm_lconst (v := 0) dX12_whose_2 (by decide) ?_
  refine pm_aload_n dX12_whose_3 rfl rfl ?_
  refine pm_get fl_RX12_193_12 dX12_whose_4 rfl rfl ?_
  refine pm_iconst (v := 1) dX12_whose_7 (by decide) ?_
  refine pm_isub dX12_whose_8 ?_
  refine pm_i2l dX12_whose_9 ?_
  refine pm_callS (M2 := m_X12_in) (As := [_, _, _]) ok_X12_in kw_1115 kw_1116 dX12_whose_10 rfl rfl (Nat.le_of_ble_eq_true rfl) ⟨⟨Nat.le_of_ble_eq_true rfl, Nat.le_of_ble_eq_true rfl⟩, Nat.le_of_ble_eq_true rfl, Nat.le_of_ble_eq_true rfl⟩ ?_
  refine c_X12_in32 (lo := 0) (hi := nI (S 26) - 1) rfl rfl (fun u v => ?_) (fun u => ?_)
  · obtain ⟨f, hf, rfl⟩ := (th_is_iff (by omega)).mp ⟨u, v⟩
    refine pm_if_ne (tgt := 19) dX12_whose_13 (by decide) (fun c_13 => ?_) (fun c_13 => absurd c_13 (by decide))
    refine pm_aload_n dX12_whose_19 rfl rfl ?_
    refine pm_callV (M2 := m_X12_layFewest) (As := []) ok_X12_layFewest (ci := 12) rfl kw_1232 kw_1234 kw_33 dX12_whose_20 rfl rfl rfl (Nat.le_of_ble_eq_true rfl) ⟨⟨Nat.le_of_ble_eq_true rfl, Nat.le_of_ble_eq_true rfl⟩, Nat.le_of_ble_eq_true rfl, Nat.le_of_ble_eq_true rfl⟩ ?_
    refine c_X12_layFewest hI (fun t p hp => ?_)
    have hfi := th_fwi hI (2 ^ S 26)
    rw [hp] at hfi
    have hp18 : p.1 ≤ 18 := hfi.1
    refine pm_iconst (v := 0) dX12_whose_23 (by decide) ?_
    refine pm_istore_n (lv2 := [(2, _), (0, _), (1, _)]) dX12_whose_24 rfl (Nat.le_of_ble_eq_true rfl) rfl ?_
    refine pm_iconst (v := 0) dX12_whose_25 (by decide) ?_
    refine pm_istore_n (lv2 := [(3, _), (2, _), (0, _), (1, _)]) dX12_whose_26 rfl (Nat.le_of_ble_eq_true rfl) rfl ?_
    suffices H : ∀ n, n ≤ 2 ^ S 26 → ∀ t, pm_W l G m_X12_whose ad 27 [(3, .int (nI n)), (2, .int (nI (th_wh S A f p.1 n))), (0, .ref (ad 8 0)), (1, .int (nI f))] [] (a0, a1, a2, a3, a4, a5, a6, a7, th_mg ad S A s (va_up B 17 t) hs (nI p.1) (nI p.2)) 0 0 Q from H 0 (Nat.zero_le _) t
    refine th_loop _ ?_
    intro n hn k t
    have hl := th_ls_le hI n
    refine pm_iload_n dX12_whose_27 rfl rfl ?_
    refine pm_iconst (v := 1) dX12_whose_28 (by decide) ?_
    refine pm_aload_n dX12_whose_29 rfl rfl ?_
    refine pm_get fl_RX12_193_12 dX12_whose_30 rfl rfl ?_
    refine pm_ishl dX12_whose_33 ?_
    rw [th_sh1 (S 26) (by omega)]
    refine pm_icmp_ge (tgt := 79) dX12_whose_34 (by decide) (fun c_34 => ?_) (fun c_34 => ?_)
    · refine pm_iload_n dX12_whose_79 rfl rfl ?_
      refine pm_iret dX12_whose_80 rfl rfl rfl ?_
      have he : n = 2 ^ S 26 := by
        rw [nI_leI (by omega) (by omega)] at c_34
        omega
      subst he
      refine th_r ?_ (hQ (upd (upd s 30 (nI p.1)) 31 (nI p.2)) (va_up B 17 t))
      rw [th_whoseA, if_pos (th_okt hf (by omega)), hp, th_n_nI (by omega)]
    · have hlt : n < 2 ^ S 26 := by
        rw [nI_leI (by omega) (by omega)] at c_34
        omega
      refine pm_iload_n dX12_whose_37 rfl rfl ?_
      refine pm_iload_n dX12_whose_38 rfl rfl ?_
      refine pm_iload_n dX12_whose_39 rfl rfl ?_
      refine pm_ishr dX12_whose_40 ?_
      refine pm_iconst (v := 1) dX12_whose_41 (by decide) ?_
      refine pm_iand dX12_whose_42 ?_
      rw [th_bit (by omega) (by omega)]
      refine pm_if_ne (tgt := 70) dX12_whose_43 (by decide) (fun c_43 => ?_) (fun c_43 => ?_)
      · refine pm_iconst (v := 0) dX12_whose_70 (by decide) ?_
        refine pm_iadd dX12_whose_71 ?_
        rw [Int32.add_zero]
        refine pm_istore_n (lv2 := [(2, _), (3, _), (0, _), (1, _)]) dX12_whose_72 rfl (Nat.le_of_ble_eq_true rfl) rfl ?_
        refine pm_iinc (lv2 := [(3, _), (2, _), (0, _), (1, _)]) dX12_whose_73 rfl (nI_1 n) (Nat.le_of_ble_eq_true rfl) rfl ?_
        refine pm_goto (tgt := 27) dX12_whose_76 (by decide) ?_
        refine pm_pick [0, 1, 2, 3] rfl ?_
        have k2 := k hlt t
        rw [th_wh0 (fun z => c_43 (by rw [z.1]; rfl))] at k2
        exact k2
      · refine pm_aload_n dX12_whose_46 rfl rfl ?_
        refine pm_iload_n dX12_whose_47 rfl rfl ?_
        refine pm_callV (M2 := m_X12_layBy) (As := [_]) ok_X12_layBy (ci := 12) rfl kw_1224 kw_1226 kw_32 dX12_whose_48 rfl rfl rfl (Nat.le_of_ble_eq_true rfl) ⟨⟨Nat.le_of_ble_eq_true rfl, Nat.le_of_ble_eq_true rfl⟩, Nat.le_of_ble_eq_true rfl, Nat.le_of_ble_eq_true rfl⟩ ?_
        refine c_X12_layByG hI (by omega) (fun t ht => ?_)
        cases hk : th_ok? S A n
        · refine pm_if_eq (tgt := 70) dX12_whose_51 (by decide) (fun c_51 => ?_) (fun c_51 => absurd (rfl) c_51)
          refine pm_iconst (v := 0) dX12_whose_70 (by decide) ?_
          refine pm_iadd dX12_whose_71 ?_
          rw [Int32.add_zero]
          refine pm_istore_n (lv2 := [(2, _), (3, _), (0, _), (1, _)]) dX12_whose_72 rfl (Nat.le_of_ble_eq_true rfl) rfl ?_
          refine pm_iinc (lv2 := [(3, _), (2, _), (0, _), (1, _)]) dX12_whose_73 rfl (nI_1 n) (Nat.le_of_ble_eq_true rfl) rfl ?_
          refine pm_goto (tgt := 27) dX12_whose_76 (by decide) ?_
          refine pm_pick [0, 1, 2, 3] rfl ?_
          have k2 := k hlt t
          rw [th_wh0 (fun z => absurd (hk.symm.trans z.2.1) (by decide))] at k2
          exact k2
        · refine pm_if_eq (tgt := 70) dX12_whose_51 (by decide) (fun c_51 => absurd c_51 (by decide)) (fun c_51 => ?_)
          refine pm_aload_n dX12_whose_54 rfl rfl ?_
          refine pm_iload_n dX12_whose_55 rfl rfl ?_
          refine pm_callV (M2 := m_X12_liesOf) (As := [_]) ok_X12_liesOf (ci := 12) rfl kw_1236 kw_1238 kw_34 dX12_whose_56 rfl rfl rfl (Nat.le_of_ble_eq_true rfl) ⟨⟨Nat.le_of_ble_eq_true rfl, Nat.le_of_ble_eq_true rfl⟩, Nat.le_of_ble_eq_true rfl, Nat.le_of_ble_eq_true rfl⟩ ?_
          refine c_X12_liesOfG hI hlt ht ?_
          refine pm_aload_n dX12_whose_59 rfl rfl ?_
          refine pm_get fl_RX12_204_12 dX12_whose_60 rfl rfl ?_
          refine pm_icmp_ne (tgt := 70) dX12_whose_63 (by decide) (fun c_63 => ?_) (fun c_63 => ?_)
          · refine pm_iconst (v := 0) dX12_whose_70 (by decide) ?_
            refine pm_iadd dX12_whose_71 ?_
            rw [Int32.add_zero]
            refine pm_istore_n (lv2 := [(2, _), (3, _), (0, _), (1, _)]) dX12_whose_72 rfl (Nat.le_of_ble_eq_true rfl) rfl ?_
            refine pm_iinc (lv2 := [(3, _), (2, _), (0, _), (1, _)]) dX12_whose_73 rfl (nI_1 n) (Nat.le_of_ble_eq_true rfl) rfl ?_
            refine pm_goto (tgt := 27) dX12_whose_76 (by decide) ?_
            refine pm_pick [0, 1, 2, 3] rfl ?_
            have k2 := k hlt t
            rw [th_wh0 (fun z => c_63 (by rw [z.2.2]))] at k2
            exact k2
          · refine pm_iconst (v := 1) dX12_whose_66 (by decide) ?_
            refine pm_goto (tgt := 71) dX12_whose_67 (by decide) ?_
            refine pm_iadd dX12_whose_71 ?_
            rw [nI_1]
            refine pm_istore_n (lv2 := [(2, _), (3, _), (0, _), (1, _)]) dX12_whose_72 rfl (Nat.le_of_ble_eq_true rfl) rfl ?_
            refine pm_iinc (lv2 := [(3, _), (2, _), (0, _), (1, _)]) dX12_whose_73 rfl (nI_1 n) (Nat.le_of_ble_eq_true rfl) rfl ?_
            refine pm_goto (tgt := 27) dX12_whose_76 (by decide) ?_
            refine pm_pick [0, 1, 2, 3] rfl ?_
            have k2 := k hlt t
            rw [th_wh1 ⟨(nI_eq (b := 0) (by omega) (by decide)).mp c_43, hk, (nI_eq (by omega) (by omega)).mp c_63⟩] at k2
            exact k2
  · refine pm_if_ne (tgt := 19) dX12_whose_13 (by decide) (fun c_13 => absurd (rfl) c_13) (fun c_13 => ?_)
    refine pm_bipush (v := (-101)) dX12_whose_16 (by decide) ?_
    refine pm_iret dX12_whose_18 rfl rfl rfl ?_
    refine th_r ?_ (hQ s B)
    rw [th_whoseA, if_neg u]

set_option maxHeartbeats 600000 in
set_option maxRecDepth 100000 in
theorem c_X3_fewestWithout {l : Launch} {G : pm_G} {ad : Nat → Nat → Nat} {S : Nat → Nat} {A : Nat → Nat → Int32} {X : Nat → Int32} {Y : Nat → Nat → Int32} {F : Nat → Int64} {Hd Cs : Nat → Option Nat} {m : List pm_A} {Q : pm_T} {f p1 : Nat} {fs : Int32} {t : Nat → Int32} (hI : th_I S A) (hT : th_T S A Y) (hf : f < S 26) (hp18 : p1 ≤ 18) (hQ : ∀ t, Q ad (some (.int (nI (th_wh S A f p1 (2 ^ S 26))))) (th_cx ad S A X (va_up Y 4 t) F Hd Cs m (nI p1) fs)) : pm_C l G m_X3_fewestWithout [.ref (ad 4 0), .int (nI f), .ref (ad 0 2), .int (nI (S 6))] ad (th_cx ad S A X (va_up Y 4 t) F Hd Cs m (nI p1) fs) Q := by
  have h8 := hI.2.2.2.2.1.1
  have h10 := hI.2.2.2.2.2.1.1
  have hp2 := th_isp (n := 0) h10
  refine pm_met (by decide) (Nat.le_of_ble_eq_true rfl) ?_
  refine pm_iconst (v := 0) dX3_fewestWithout_0 (by decide) ?_
  refine pm_istore (lv2 := [(4, _), (0, _), (1, _), (2, _), (3, _)]) dX3_fewestWithout_1 (Nat.le_of_ble_eq_true rfl) rfl ?_
  refine pm_iconst (v := 0) dX3_fewestWithout_3 (by decide) ?_
  refine pm_istore (lv2 := [(5, _), (4, _), (0, _), (1, _), (2, _), (3, _)]) dX3_fewestWithout_4 (Nat.le_of_ble_eq_true rfl) rfl ?_
  suffices H : ∀ n, n ≤ 2 ^ S 26 → ∀ t, pm_W l G m_X3_fewestWithout ad 6 [(5, .int (nI n)), (4, .int (nI (th_wh S A f p1 n))), (0, .ref (ad 4 0)), (1, .int (nI f)), (2, .ref (ad 0 2)), (3, .int (nI (S 6)))] [] (th_cx ad S A X (va_up Y 4 t) F Hd Cs m (nI p1) fs) 0 0 Q from H 0 (Nat.zero_le _) t
  refine th_loop _ ?_
  intro n hn k t
  have hl := th_ls_le hI n
  refine pm_iload dX3_fewestWithout_6 rfl ?_
  refine pm_iconst (v := 1) dX3_fewestWithout_8 (by decide) ?_
  refine pm_aload_n dX3_fewestWithout_9 rfl rfl ?_
  refine pm_get fl_RX3_24_3 dX3_fewestWithout_10 rfl rfl ?_
  refine pm_ishl dX3_fewestWithout_13 ?_
  rw [th_sh1 (S 26) (by omega)]
  refine pm_icmp_ge (tgt := 60) dX3_fewestWithout_14 (by decide) (fun c_14 => ?_) (fun c_14 => ?_)
  · refine pm_iload dX3_fewestWithout_60 rfl ?_
    refine pm_iret dX3_fewestWithout_62 rfl rfl rfl ?_
    have he : n = 2 ^ S 26 := by
      rw [nI_leI (by omega) (by omega)] at c_14
      omega
    subst he
    exact hQ t
  · have hlt : n < 2 ^ S 26 := by
      rw [nI_leI (by omega) (by omega)] at c_14
      omega
    refine pm_iload dX3_fewestWithout_17 rfl ?_
    refine pm_iload_n dX3_fewestWithout_19 rfl rfl ?_
    refine pm_ishr dX3_fewestWithout_20 ?_
    refine pm_iconst (v := 1) dX3_fewestWithout_21 (by decide) ?_
    refine pm_iand dX3_fewestWithout_22 ?_
    rw [th_bit (by omega) (by omega)]
    refine pm_if_ne (tgt := 54) dX3_fewestWithout_23 (by decide) (fun c_23 => ?_) (fun c_23 => ?_)
    · refine pm_iinc (lv2 := [(5, _), (4, _), (0, _), (1, _), (2, _), (3, _)]) dX3_fewestWithout_54 rfl (nI_1 n) (Nat.le_of_ble_eq_true rfl) rfl ?_
      refine pm_goto (tgt := 6) dX3_fewestWithout_57 (by decide) ?_
      refine pm_pick [0, 1, 2, 3, 4, 5] rfl ?_
      have k2 := k hlt t
      rw [th_wh0 (fun z => c_23 (by rw [z.1]; rfl))] at k2
      exact k2
    · refine pm_aload_n dX3_fewestWithout_26 rfl rfl ?_
      refine pm_iload dX3_fewestWithout_27 rfl ?_
      refine pm_aload_n dX3_fewestWithout_29 rfl rfl ?_
      refine pm_iload_n dX3_fewestWithout_30 rfl rfl ?_
      refine pm_callV (M2 := m_X3_follow) (As := [_, _, _]) ok_X3_follow (ci := 3) rfl kw_695 kw_675 kw_676 dX3_fewestWithout_31 rfl rfl rfl (Nat.le_of_ble_eq_true rfl) ⟨⟨Nat.le_of_ble_eq_true rfl, Nat.le_of_ble_eq_true rfl⟩, Nat.le_of_ble_eq_true rfl, Nat.le_of_ble_eq_true rfl⟩ ?_
      refine c_X3_followX hI hT (by omega) (fun hk t ht => ?_) (fun hk t => ?_)
      · refine pm_if_eq (tgt := 54) dX3_fewestWithout_34 (by decide) (fun c_34 => absurd c_34 (by decide)) (fun c_34 => ?_)
        refine pm_aload_n dX3_fewestWithout_37 rfl rfl ?_
        refine pm_iload dX3_fewestWithout_38 rfl ?_
        refine pm_aload_n dX3_fewestWithout_40 rfl rfl ?_
        refine pm_callV (M2 := m_X3_liesOf) (As := [_, _]) ok_X3_liesOf (ci := 3) rfl kw_696 kw_698 kw_9 dX3_fewestWithout_41 rfl rfl rfl (Nat.le_of_ble_eq_true rfl) ⟨⟨Nat.le_of_ble_eq_true rfl, Nat.le_of_ble_eq_true rfl⟩, Nat.le_of_ble_eq_true rfl, Nat.le_of_ble_eq_true rfl⟩ ?_
        refine c_X3_liesOfX hI hlt ht ?_
        refine pm_aload_n dX3_fewestWithout_44 rfl rfl ?_
        refine pm_get fl_RX3_62_3 dX3_fewestWithout_45 rfl rfl ?_
        refine pm_icmp_ne (tgt := 54) dX3_fewestWithout_48 (by decide) (fun c_48 => ?_) (fun c_48 => ?_)
        · refine pm_iinc (lv2 := [(5, _), (4, _), (0, _), (1, _), (2, _), (3, _)]) dX3_fewestWithout_54 rfl (nI_1 n) (Nat.le_of_ble_eq_true rfl) rfl ?_
          refine pm_goto (tgt := 6) dX3_fewestWithout_57 (by decide) ?_
          refine pm_pick [0, 1, 2, 3, 4, 5] rfl ?_
          have k2 := k hlt t
          rw [th_wh0 (fun z => c_48 (by rw [z.2.2]))] at k2
          exact k2
        · refine pm_iinc (lv2 := [(4, _), (5, _), (0, _), (1, _), (2, _), (3, _)]) dX3_fewestWithout_51 rfl (nI_1 _) (Nat.le_of_ble_eq_true rfl) rfl ?_
          refine pm_iinc (lv2 := [(5, _), (4, _), (0, _), (1, _), (2, _), (3, _)]) dX3_fewestWithout_54 rfl (nI_1 n) (Nat.le_of_ble_eq_true rfl) rfl ?_
          refine pm_goto (tgt := 6) dX3_fewestWithout_57 (by decide) ?_
          refine pm_pick [0, 1, 2, 3, 4, 5] rfl ?_
          have k2 := k hlt t
          rw [th_wh1 ⟨(nI_eq (b := 0) (by omega) (by decide)).mp c_23, hk, (nI_eq (by omega) (by omega)).mp c_48⟩] at k2
          exact k2
      · refine pm_if_eq (tgt := 54) dX3_fewestWithout_34 (by decide) (fun c_34 => ?_) (fun c_34 => absurd (rfl) c_34)
        refine pm_iinc (lv2 := [(5, _), (4, _), (0, _), (1, _), (2, _), (3, _)]) dX3_fewestWithout_54 rfl (nI_1 n) (Nat.le_of_ble_eq_true rfl) rfl ?_
        refine pm_goto (tgt := 6) dX3_fewestWithout_57 (by decide) ?_
        refine pm_pick [0, 1, 2, 3, 4, 5] rfl ?_
        have k2 := k hlt t
        rw [th_wh0 (fun z => absurd (hk.symm.trans z.2.1) (by decide))] at k2
        exact k2

set_option maxHeartbeats 600000 in
set_option maxRecDepth 100000 in
theorem c_X11_whose {l : Launch} {G : pm_G} {ad : Nat → Nat → Nat} {S : Nat → Nat} {A : Nat → Nat → Int32} {X : Nat → Int32} {Y : Nat → Nat → Int32} {F : Nat → Int64} {Hd Cs : Nat → Option Nat} {m : List pm_A} {Q : pm_T} {x : Int32} (hI : th_I S A) (hT : th_T S A Y) (hQ : ∀ X2 t, Q ad (some (.int (th_whoseA S A x))) (th_cw ad S A X2 (va_up Y 4 t) F Hd Cs m)) : pm_C l G m_X11_whose [.ref (ad 0 0), .int x] ad (th_cw ad S A X Y F Hd Cs m) Q := by
  have h8 := hI.2.2.2.2.1.1
  have h10 := hI.2.2.2.2.2.1.1
  have hp2 := th_isp (n := 0) h10
  refine pm_met (by decide) (Nat.le_of_ble_eq_true rfl) ?_
  refine pm_iload_n dX11_whose_0 rfl rfl ?_
  refine pm_iconst (v := 0) dX11_whose_1 (by decide) ?_
  refine pm_aload_n dX11_whose_2 rfl rfl ?_
  refine pm_get fl_RX11_38_11 dX11_whose_3 rfl rfl ?_
  refine pm_get fl_RX11_188_3 dX11_whose_6 rfl rfl ?_
  refine pm_iconst (v := 1) dX11_whose_9 (by decide) ?_
  refine pm_isub dX11_whose_10 ?_
  refine pm_callS (M2 := m_X11_isOutside) (As := [_, _, _]) ok_X11_isOutside kw_361 kw_362 dX11_whose_11 rfl rfl (Nat.le_of_ble_eq_true rfl) ⟨⟨Nat.le_of_ble_eq_true rfl, Nat.le_of_ble_eq_true rfl⟩, Nat.le_of_ble_eq_true rfl, Nat.le_of_ble_eq_true rfl⟩ ?_
  refine c_X11_isOutside (fun u => ?_) (fun u v => ?_)
  · refine pm_if_eq (tgt := 20) dX11_whose_14 (by decide) (fun c_14 => absurd c_14 (by decide)) (fun c_14 => ?_)
    refine pm_bipush (v := (-101)) dX11_whose_17 (by decide) ?_
    refine pm_iret dX11_whose_19 rfl rfl rfl ?_
    refine th_r ?_ (hQ X (Y 4))
    rw [th_whoseA, if_neg u]
  · obtain ⟨f, hf, rfl⟩ := (th_is_iff (by omega)).mp ⟨u, v⟩
    refine pm_if_eq (tgt := 20) dX11_whose_14 (by decide) (fun c_14 => ?_) (fun c_14 => absurd (rfl) c_14)
    refine pm_aload_n dX11_whose_20 rfl rfl ?_
    refine pm_get fl_RX11_38_11 dX11_whose_21 rfl rfl ?_
    refine pm_aload_n dX11_whose_24 rfl rfl ?_
    refine pm_get fl_RX11_24_11 dX11_whose_25 rfl rfl ?_
    refine pm_aload_n dX11_whose_28 rfl rfl ?_
    refine pm_get fl_RX11_60_11 dX11_whose_29 rfl rfl ?_
    refine pm_callV (M2 := m_X3_findFewestLies) (As := [_, _]) ok_X3_findFewestLies (ci := 3) rfl kw_691 kw_692 kw_693 dX11_whose_32 rfl rfl rfl (Nat.le_of_ble_eq_true rfl) ⟨⟨Nat.le_of_ble_eq_true rfl, Nat.le_of_ble_eq_true rfl⟩, Nat.le_of_ble_eq_true rfl, Nat.le_of_ble_eq_true rfl⟩ ?_
    refine c_X3_findFewestLies hI hT (fun t p hp => ?_)
    have hfi := th_fwi hI (2 ^ S 26)
    rw [hp] at hfi
    have hp18 : p.1 ≤ 18 := hfi.1
    refine pm_aload_n dX11_whose_35 rfl rfl ?_
    refine pm_get fl_RX11_38_11 dX11_whose_36 rfl rfl ?_
    refine pm_iload_n dX11_whose_39 rfl rfl ?_
    refine pm_aload_n dX11_whose_40 rfl rfl ?_
    refine pm_get fl_RX11_24_11 dX11_whose_41 rfl rfl ?_
    refine pm_aload_n dX11_whose_44 rfl rfl ?_
    refine pm_get fl_RX11_60_11 dX11_whose_45 rfl rfl ?_
    refine pm_callV (M2 := m_X3_fewestWithout) (As := [_, _, _]) ok_X3_fewestWithout (ci := 3) rfl kw_720 kw_721 kw_722 dX11_whose_48 rfl rfl rfl (Nat.le_of_ble_eq_true rfl) ⟨⟨Nat.le_of_ble_eq_true rfl, Nat.le_of_ble_eq_true rfl⟩, Nat.le_of_ble_eq_true rfl, Nat.le_of_ble_eq_true rfl⟩ ?_
    refine c_X3_fewestWithout hI hT hf hp18 (fun t => ?_)
    refine pm_iret dX11_whose_51 rfl rfl rfl ?_
    refine th_r ?_ (hQ (upd (upd X 3 (nI p.1)) 4 (nI p.2)) t)
    rw [th_whoseA, if_pos (th_okt hf (by omega)), hp, th_n_nI (by omega)]

