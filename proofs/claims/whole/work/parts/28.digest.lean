def th_cb (A : Nat → Nat → Int32) : Nat → Nat
  | 0 => 0
  | n + 1 => th_cb A n + (if A 13 n = 0 then 0 else 1)
def th_cc (A : Nat → Nat → Int32) : Nat → Nat
  | 0 => 0
  | n + 1 => th_cc A n + (if A 14 n = -1 then 0 else 1)
theorem th_cb0 {A : Nat → Nat → Int32} {n : Nat} (h : A 13 n = 0) : th_cb A (n + 1) = th_cb A n := by rw [th_cb, if_pos h, Nat.add_zero]
theorem th_cb1 {A : Nat → Nat → Int32} {n : Nat} (h : ¬ A 13 n = 0) : th_cb A (n + 1) = th_cb A n + 1 := by rw [th_cb, if_neg h]
theorem th_cc0 {A : Nat → Nat → Int32} {n : Nat} (h : A 14 n = -1) : th_cc A (n + 1) = th_cc A n := by rw [th_cc, if_pos h, Nat.add_zero]
theorem th_cc1 {A : Nat → Nat → Int32} {n : Nat} (h : ¬ A 14 n = -1) : th_cc A (n + 1) = th_cc A n + 1 := by rw [th_cc, if_neg h]
def th_countA (S : Nat → Nat) (A : Nat → Nat → Int32) (x : Int32) : Int32 := if x = 0 then nI (S 2) else if x = 1 then nI (S 11) else if x = 2 then nI (th_cb A (S 11)) else if x = 3 then nI (S 26) else if x = 4 then nI (th_cc A (S 11)) else if x = 5 then nI (S 34) else if x = 6 then nI (S 1) else -102
set_option maxHeartbeats 600000 in
set_option maxRecDepth 100000 in
theorem c_X12_countOf {l : Launch} {G : pm_G} {ad : Nat → Nat → Nat} {a0 a3 a4 a5 a6 a7 : List pm_A} {a1 a2 : Nat → Option pm_A} {S : Nat → Nat} {A : Nat → Nat → Int32} {s : Nat → Int32} {B : Nat → Nat → Int32} {hs : Int64} {Q : pm_T} {x : Int32} (hI : th_I S A) (hQ : Q ad (some (.int (th_countA S A x))) (a0, a1, a2, a3, a4, a5, a6, a7, th_mp ad S A s B hs)) : pm_C l G m_X12_countOf [.ref (ad 8 0), .int x] ad (a0, a1, a2, a3, a4, a5, a6, a7, th_mp ad S A s B hs) Q := by
  have h8 := hI.2.2.2.2.1.1
  have h10 := hI.2.2.2.2.2.1.1
  have h3 := hI.2.1.1
  have h34 := hI.2.2.2.2.2.2.1.1
  have h20 := hI.1.1
  refine pm_met (by decide) (Nat.le_of_ble_eq_true rfl) ?_
  refine pm_iconst (v := 0) dX12_countOf_0 (by decide) ?_
  refine pm_istore_n (lv2 := [(2, _), (0, _), (1, _)]) dX12_countOf_1 rfl (Nat.le_of_ble_eq_true rfl) rfl ?_
  refine pm_iconst (v := 0) dX12_countOf_2 (by decide) ?_
  refine pm_istore_n (lv2 := [(3, _), (2, _), (0, _), (1, _)]) dX12_countOf_3 rfl (Nat.le_of_ble_eq_true rfl) rfl ?_
  refine pm_iconst (v := 0) dX12_countOf_4 (by decide) ?_
  refine pm_istore (lv2 := [(4, _), (3, _), (2, _), (0, _), (1, _)]) dX12_countOf_5 (Nat.le_of_ble_eq_true rfl) rfl ?_
  suffices H : ∀ i, i ≤ S 11 → pm_W l G m_X12_countOf ad 7 [(4, .int (nI i)), (3, .int (nI (th_cc A i))), (2, .int (nI (th_cb A i))), (0, .ref (ad 8 0)), (1, .int x)] [] (a0, a1, a2, a3, a4, a5, a6, a7, th_mp ad S A s B hs) 0 0 Q from H 0 (Nat.zero_le _)
  refine th_loop _ ?_
  intro i hi k
  refine pm_iload dX12_countOf_7 rfl ?_
  refine pm_aload_n dX12_countOf_9 rfl rfl ?_
  refine pm_get fl_RX12_137_12 dX12_countOf_10 rfl rfl ?_
  refine pm_icmp_ge (tgt := 59) dX12_countOf_13 (by decide) (fun c_13 => ?_) (fun c_13 => ?_)
  · have he : i = S 11 := by
      rw [nI_leI (by omega) (by omega)] at c_13
      omega
    subst he
    refine pm_iload_n dX12_countOf_59 rfl rfl ?_
    by_cases s_60_0 : x = 0
    · refine pm_tableIn (off := 44) (tgt := 104) dX12_countOf_60 (by rw [s_60_0]; decide) (by rw [s_60_0]; decide) (by rw [s_60_0]; decide) (by decide) ?_
      refine pm_aload_n dX12_countOf_104 rfl rfl ?_
      refine pm_get fl_RX12_111_12 dX12_countOf_105 rfl rfl ?_
      refine pm_iret dX12_countOf_108 rfl rfl rfl ?_
      refine th_r ?_ hQ
      rw [th_countA, if_pos s_60_0]
    · skip
      by_cases s_60_1 : x = 1
      · refine pm_tableIn (off := 49) (tgt := 109) dX12_countOf_60 (by rw [s_60_1]; decide) (by rw [s_60_1]; decide) (by rw [s_60_1]; decide) (by decide) ?_
        refine pm_aload_n dX12_countOf_109 rfl rfl ?_
        refine pm_get fl_RX12_137_12 dX12_countOf_110 rfl rfl ?_
        refine pm_iret dX12_countOf_113 rfl rfl rfl ?_
        refine th_r ?_ hQ
        rw [th_countA, if_neg s_60_0, if_pos s_60_1]
      · skip
        by_cases s_60_2 : x = 2
        · refine pm_tableIn (off := 54) (tgt := 114) dX12_countOf_60 (by rw [s_60_2]; decide) (by rw [s_60_2]; decide) (by rw [s_60_2]; decide) (by decide) ?_
          refine pm_iload_n dX12_countOf_114 rfl rfl ?_
          refine pm_iret dX12_countOf_115 rfl rfl rfl ?_
          refine th_r ?_ hQ
          rw [th_countA, if_neg s_60_0, if_neg s_60_1, if_pos s_60_2]
        · skip
          by_cases s_60_3 : x = 3
          · refine pm_tableIn (off := 56) (tgt := 116) dX12_countOf_60 (by rw [s_60_3]; decide) (by rw [s_60_3]; decide) (by rw [s_60_3]; decide) (by decide) ?_
            refine pm_aload_n dX12_countOf_116 rfl rfl ?_
            refine pm_get fl_RX12_193_12 dX12_countOf_117 rfl rfl ?_
            refine pm_iret dX12_countOf_120 rfl rfl rfl ?_
            refine th_r ?_ hQ
            rw [th_countA, if_neg s_60_0, if_neg s_60_1, if_neg s_60_2, if_pos s_60_3]
          · skip
            by_cases s_60_4 : x = 4
            · refine pm_tableIn (off := 61) (tgt := 121) dX12_countOf_60 (by rw [s_60_4]; decide) (by rw [s_60_4]; decide) (by rw [s_60_4]; decide) (by decide) ?_
              refine pm_iload_n dX12_countOf_121 rfl rfl ?_
              refine pm_iret dX12_countOf_122 rfl rfl rfl ?_
              refine th_r ?_ hQ
              rw [th_countA, if_neg s_60_0, if_neg s_60_1, if_neg s_60_2, if_neg s_60_3, if_pos s_60_4]
            · skip
              by_cases s_60_5 : x = 5
              · refine pm_tableIn (off := 63) (tgt := 123) dX12_countOf_60 (by rw [s_60_5]; decide) (by rw [s_60_5]; decide) (by rw [s_60_5]; decide) (by decide) ?_
                refine pm_aload_n dX12_countOf_123 rfl rfl ?_
                refine pm_get fl_RX12_259_12 dX12_countOf_124 rfl rfl ?_
                refine pm_iret dX12_countOf_127 rfl rfl rfl ?_
                refine th_r ?_ hQ
                rw [th_countA, if_neg s_60_0, if_neg s_60_1, if_neg s_60_2, if_neg s_60_3, if_neg s_60_4, if_pos s_60_5]
              · skip
                by_cases s_60_6 : x = 6
                · refine pm_tableIn (off := 68) (tgt := 128) dX12_countOf_60 (by rw [s_60_6]; decide) (by rw [s_60_6]; decide) (by rw [s_60_6]; decide) (by decide) ?_
                  refine pm_aload_n dX12_countOf_128 rfl rfl ?_
                  refine pm_get fl_RX12_82_12 dX12_countOf_129 rfl rfl ?_
                  refine pm_iret dX12_countOf_132 rfl rfl rfl ?_
                  refine th_r ?_ hQ
                  rw [th_countA, if_neg s_60_0, if_neg s_60_1, if_neg s_60_2, if_neg s_60_3, if_neg s_60_4, if_neg s_60_5, if_pos s_60_6]
                · skip
                  refine pm_tableOut (tgt := 133) dX12_countOf_60 (by have q0 := th_ne s_60_0 (z := 0) (by decide); have q1 := th_ne s_60_1 (z := 1) (by decide); have q2 := th_ne s_60_2 (z := 2) (by decide); have q3 := th_ne s_60_3 (z := 3) (by decide); have q4 := th_ne s_60_4 (z := 4) (by decide); have q5 := th_ne s_60_5 (z := 5) (by decide); have q6 := th_ne s_60_6 (z := 6) (by decide); omega) (by decide) ?_
                  refine pm_bipush (v := (-102)) dX12_countOf_133 (by decide) ?_
                  refine pm_iret dX12_countOf_135 rfl rfl rfl ?_
                  refine th_r ?_ hQ
                  rw [th_countA, if_neg s_60_0, if_neg s_60_1, if_neg s_60_2, if_neg s_60_3, if_neg s_60_4, if_neg s_60_5, if_neg s_60_6]
  · have hlt : i < S 11 := by
      rw [nI_leI (by omega) (by omega)] at c_13
      omega
    refine pm_iload_n dX12_countOf_16 rfl rfl ?_
    refine pm_aload_n dX12_countOf_17 rfl rfl ?_
    refine pm_get fl_RX12_46_12 dX12_countOf_18 rfl rfl ?_
    refine pm_iload dX12_countOf_21 rfl ?_
    refine pm_zald dX12_countOf_23 rfl (th_in (by omega) (by decide)) ?_
    rw [th_cl (by omega)]
    refine pm_if_eq (tgt := 31) dX12_countOf_24 (by decide) (fun c_24 => ?_) (fun c_24 => ?_)
    · refine pm_iconst (v := 0) dX12_countOf_31 (by decide) ?_
      refine pm_iadd dX12_countOf_32 ?_
      rw [Int32.add_zero, ← th_cb0 c_24]
      refine pm_istore_n (lv2 := [(2, _), (4, _), (3, _), (0, _), (1, _)]) dX12_countOf_33 rfl (Nat.le_of_ble_eq_true rfl) rfl ?_
      refine pm_iload_n dX12_countOf_34 rfl rfl ?_
      refine pm_aload_n dX12_countOf_35 rfl rfl ?_
      refine pm_get fl_RX12_50_12 dX12_countOf_36 rfl rfl ?_
      refine pm_iload dX12_countOf_39 rfl ?_
      refine pm_iald dX12_countOf_41 rfl (th_in (by omega) (by decide)) ?_
      rw [th_cl (by omega)]
      refine pm_iconst (v := (-1)) dX12_countOf_42 (by decide) ?_
      refine pm_icmp_ne (tgt := 50) dX12_countOf_43 (by decide) (fun c_43 => ?_) (fun c_43 => ?_)
      · refine pm_iconst (v := 1) dX12_countOf_50 (by decide) ?_
        refine pm_iadd dX12_countOf_51 ?_
        rw [nI_1, ← th_cc1 c_43]
        refine pm_istore_n (lv2 := [(3, _), (2, _), (4, _), (0, _), (1, _)]) dX12_countOf_52 rfl (Nat.le_of_ble_eq_true rfl) rfl ?_
        refine pm_iinc (lv2 := [(4, _), (3, _), (2, _), (0, _), (1, _)]) dX12_countOf_53 rfl (nI_1 i) (Nat.le_of_ble_eq_true rfl) rfl ?_
        refine pm_goto (tgt := 7) dX12_countOf_56 (by decide) ?_
        refine pm_pick [0, 1, 2, 3, 4] rfl ?_
        exact k hlt
      · refine pm_iconst (v := 0) dX12_countOf_46 (by decide) ?_
        refine pm_goto (tgt := 51) dX12_countOf_47 (by decide) ?_
        refine pm_iadd dX12_countOf_51 ?_
        rw [Int32.add_zero, ← th_cc0 c_43]
        refine pm_istore_n (lv2 := [(3, _), (2, _), (4, _), (0, _), (1, _)]) dX12_countOf_52 rfl (Nat.le_of_ble_eq_true rfl) rfl ?_
        refine pm_iinc (lv2 := [(4, _), (3, _), (2, _), (0, _), (1, _)]) dX12_countOf_53 rfl (nI_1 i) (Nat.le_of_ble_eq_true rfl) rfl ?_
        refine pm_goto (tgt := 7) dX12_countOf_56 (by decide) ?_
        refine pm_pick [0, 1, 2, 3, 4] rfl ?_
        exact k hlt
    · refine pm_iconst (v := 1) dX12_countOf_27 (by decide) ?_
      refine pm_goto (tgt := 32) dX12_countOf_28 (by decide) ?_
      refine pm_iadd dX12_countOf_32 ?_
      rw [nI_1, ← th_cb1 c_24]
      refine pm_istore_n (lv2 := [(2, _), (4, _), (3, _), (0, _), (1, _)]) dX12_countOf_33 rfl (Nat.le_of_ble_eq_true rfl) rfl ?_
      refine pm_iload_n dX12_countOf_34 rfl rfl ?_
      refine pm_aload_n dX12_countOf_35 rfl rfl ?_
      refine pm_get fl_RX12_50_12 dX12_countOf_36 rfl rfl ?_
      refine pm_iload dX12_countOf_39 rfl ?_
      refine pm_iald dX12_countOf_41 rfl (th_in (by omega) (by decide)) ?_
      rw [th_cl (by omega)]
      refine pm_iconst (v := (-1)) dX12_countOf_42 (by decide) ?_
      refine pm_icmp_ne (tgt := 50) dX12_countOf_43 (by decide) (fun c_43 => ?_) (fun c_43 => ?_)
      · refine pm_iconst (v := 1) dX12_countOf_50 (by decide) ?_
        refine pm_iadd dX12_countOf_51 ?_
        rw [nI_1, ← th_cc1 c_43]
        refine pm_istore_n (lv2 := [(3, _), (2, _), (4, _), (0, _), (1, _)]) dX12_countOf_52 rfl (Nat.le_of_ble_eq_true rfl) rfl ?_
        refine pm_iinc (lv2 := [(4, _), (3, _), (2, _), (0, _), (1, _)]) dX12_countOf_53 rfl (nI_1 i) (Nat.le_of_ble_eq_true rfl) rfl ?_
        refine pm_goto (tgt := 7) dX12_countOf_56 (by decide) ?_
        refine pm_pick [0, 1, 2, 3, 4] rfl ?_
        exact k hlt
      · refine pm_iconst (v := 0) dX12_countOf_46 (by decide) ?_
        refine pm_goto (tgt := 51) dX12_countOf_47 (by decide) ?_
        refine pm_iadd dX12_countOf_51 ?_
        rw [Int32.add_zero, ← th_cc0 c_43]
        refine pm_istore_n (lv2 := [(3, _), (2, _), (4, _), (0, _), (1, _)]) dX12_countOf_52 rfl (Nat.le_of_ble_eq_true rfl) rfl ?_
        refine pm_iinc (lv2 := [(4, _), (3, _), (2, _), (0, _), (1, _)]) dX12_countOf_53 rfl (nI_1 i) (Nat.le_of_ble_eq_true rfl) rfl ?_
        refine pm_goto (tgt := 7) dX12_countOf_56 (by decide) ?_
        refine pm_pick [0, 1, 2, 3, 4] rfl ?_
        exact k hlt

set_option maxHeartbeats 600000 in
set_option maxRecDepth 100000 in
theorem c_X12_count {l : Launch} {G : pm_G} {ad : Nat → Nat → Nat} {a0 a3 a4 a5 a6 a7 : List pm_A} {a1 a2 : Nat → Option pm_A} {S : Nat → Nat} {A : Nat → Nat → Int32} {s : Nat → Int32} {B : Nat → Nat → Int32} {hs : Int64} {Q : pm_T} {x : Int32} (hI : th_I S A) (hQ : Q ad (some (.int (th_countA S A x))) (a0, a1, a2, a3, a4, a5, a6, a7, th_mp ad S A s B hs)) : pm_C l G m_X12_count [.ref (ad 8 0), .int x] ad (a0, a1, a2, a3, a4, a5, a6, a7, th_mp ad S A s B hs) Q := by
  refine pm_met (by decide) (Nat.le_of_ble_eq_true rfl) ?_
  refine pm_aload_n dX12_count_0 rfl rfl ?_
  refine pm_iload_n dX12_count_1 rfl rfl ?_
  refine pm_callV (M2 := m_X12_countOf) (As := [_]) ok_X12_countOf (ci := 12) rfl kw_1359 kw_1361 kw_43 dX12_count_2 rfl rfl rfl (Nat.le_of_ble_eq_true rfl) ⟨⟨Nat.le_of_ble_eq_true rfl, Nat.le_of_ble_eq_true rfl⟩, Nat.le_of_ble_eq_true rfl, Nat.le_of_ble_eq_true rfl⟩ ?_
  refine c_X12_countOf hI ?_
  refine pm_iret dX12_count_5 rfl rfl rfl ?_
  exact hQ

set_option maxHeartbeats 600000 in
set_option maxRecDepth 100000 in
theorem c_X11_brokenNuts {l : Launch} {G : pm_G} {ad : Nat → Nat → Nat} {S : Nat → Nat} {A : Nat → Nat → Int32} {X : Nat → Int32} {Y : Nat → Nat → Int32} {F : Nat → Int64} {Hd Cs : Nat → Option Nat} {m : List pm_A} {Q : pm_T} (hI : th_I S A) (hQ : Q ad (some (.int (nI (th_cb A (S 11))))) (th_cw ad S A X Y F Hd Cs m)) : pm_C l G m_X11_brokenNuts [.ref (ad 0 0)] ad (th_cw ad S A X Y F Hd Cs m) Q := by
  have h8 := hI.2.2.2.2.1.1
  have h10 := hI.2.2.2.2.2.1.1
  have h3 := hI.2.1.1
  have h34 := hI.2.2.2.2.2.2.1.1
  have h20 := hI.1.1
  refine pm_met (by decide) (Nat.le_of_ble_eq_true rfl) ?_
  refine pm_iconst (v := 0) dX11_brokenNuts_0 (by decide) ?_
  refine pm_istore_n (lv2 := [(1, _), (0, _)]) dX11_brokenNuts_1 rfl (Nat.le_of_ble_eq_true rfl) rfl ?_
  refine pm_iconst (v := 0) dX11_brokenNuts_2 (by decide) ?_
  refine pm_istore_n (lv2 := [(2, _), (1, _), (0, _)]) dX11_brokenNuts_3 rfl (Nat.le_of_ble_eq_true rfl) rfl ?_
  suffices H : ∀ i, i ≤ S 11 → pm_W l G m_X11_brokenNuts ad 4 [(2, .int (nI i)), (1, .int (nI (th_cb A i))), (0, .ref (ad 0 0))] [] (th_cw ad S A X Y F Hd Cs m) 0 0 Q from H 0 (Nat.zero_le _)
  refine th_loop _ ?_
  intro i hi k
  refine pm_iload_n dX11_brokenNuts_4 rfl rfl ?_
  refine pm_aload_n dX11_brokenNuts_5 rfl rfl ?_
  refine pm_get fl_RX11_24_11 dX11_brokenNuts_6 rfl rfl ?_
  refine pm_alen (by decide) dX11_brokenNuts_9 rfl ?_
  show pm_W _ _ _ _ _ _ (.int (nI 8) :: _) _ _ _ _
  refine pm_icmp_ge (tgt := 43) dX11_brokenNuts_10 (by decide) (fun c_10 => ?_) (fun c_10 => ?_)
  · refine pm_iload_n dX11_brokenNuts_43 rfl rfl ?_
    refine pm_iret dX11_brokenNuts_44 rfl rfl rfl ?_
    have he : i = S 11 := by
      rw [nI_leI (by decide) (by omega)] at c_10
      omega
    refine th_r ?_ hQ
    rw [he]
  · refine pm_aload_n dX11_brokenNuts_13 rfl rfl ?_
    refine pm_get fl_RX11_24_11 dX11_brokenNuts_14 rfl rfl ?_
    refine pm_iload_n dX11_brokenNuts_17 rfl rfl ?_
    have hi8 : i < 8 := by
      rw [nI_leI (by decide) (by omega)] at c_10
      omega
    refine pm_aaldN dX11_brokenNuts_18 rfl (th_in hi8 (by decide)) ?_
    rw [th_cl (by omega)]
    unfold th_rs
    by_cases hlt : i < S 11
    · rw [if_pos hlt]
      show pm_W _ _ _ _ _ _ (.ref (ad 2 i) :: _) _ _ _ _
      refine pm_ifnull dX11_brokenNuts_19 ?_
      refine pm_aload_n dX11_brokenNuts_22 rfl rfl ?_
      refine pm_get fl_RX11_24_11 dX11_brokenNuts_23 rfl rfl ?_
      refine pm_iload_n dX11_brokenNuts_26 rfl rfl ?_
      refine pm_aaldN dX11_brokenNuts_27 rfl (th_in hi8 (by decide)) ?_
      rw [th_cl (by omega)]
      unfold th_rs
      rw [if_pos hlt]
      show pm_W _ _ _ _ _ _ (.ref (ad 2 i) :: _) _ _ _ _
      refine pm_get (fn_RX11_127 _) dX11_brokenNuts_28 (show pm_get? _ 2 i = _ from th_nt_get hlt) rfl ?_
      refine pm_if_eq (tgt := 37) dX11_brokenNuts_31 (by decide) (fun c_31 => ?_) (fun c_31 => ?_)
      · refine pm_iinc (lv2 := [(2, _), (1, _), (0, _)]) dX11_brokenNuts_37 rfl (nI_1 i) (Nat.le_of_ble_eq_true rfl) rfl ?_
        refine pm_goto (tgt := 4) dX11_brokenNuts_40 (by decide) ?_
        refine pm_pick [0, 1, 2] rfl ?_
        have k2 := k hlt
        rw [th_cb0 c_31] at k2
        exact k2
      · refine pm_iinc (lv2 := [(1, _), (2, _), (0, _)]) dX11_brokenNuts_34 rfl (nI_1 _) (Nat.le_of_ble_eq_true rfl) rfl ?_
        refine pm_iinc (lv2 := [(2, _), (1, _), (0, _)]) dX11_brokenNuts_37 rfl (nI_1 i) (Nat.le_of_ble_eq_true rfl) rfl ?_
        refine pm_goto (tgt := 4) dX11_brokenNuts_40 (by decide) ?_
        refine pm_pick [0, 1, 2] rfl ?_
        have k2 := k hlt
        rw [th_cb1 c_31] at k2
        exact k2
    · rw [if_neg hlt]
      show pm_W _ _ _ _ _ _ (.null :: _) _ _ _ _
      refine pm_ifnullN (tgt := 43) dX11_brokenNuts_19 (by decide) ?_
      refine pm_iload_n dX11_brokenNuts_43 rfl rfl ?_
      refine pm_iret dX11_brokenNuts_44 rfl rfl rfl ?_
      have he : i = S 11 := by omega
      refine th_r ?_ hQ
      rw [he]

set_option maxHeartbeats 600000 in
set_option maxRecDepth 100000 in
theorem c_X11_claimsMade {l : Launch} {G : pm_G} {ad : Nat → Nat → Nat} {S : Nat → Nat} {A : Nat → Nat → Int32} {X : Nat → Int32} {Y : Nat → Nat → Int32} {F : Nat → Int64} {Hd Cs : Nat → Option Nat} {m : List pm_A} {Q : pm_T} (hI : th_I S A) (hQ : Q ad (some (.int (nI (th_cc A (S 11))))) (th_cw ad S A X Y F Hd Cs m)) : pm_C l G m_X11_claimsMade [.ref (ad 0 0)] ad (th_cw ad S A X Y F Hd Cs m) Q := by
  have h8 := hI.2.2.2.2.1.1
  have h10 := hI.2.2.2.2.2.1.1
  have h3 := hI.2.1.1
  have h34 := hI.2.2.2.2.2.2.1.1
  have h20 := hI.1.1
  refine pm_met (by decide) (Nat.le_of_ble_eq_true rfl) ?_
  refine pm_iconst (v := 0) dX11_claimsMade_0 (by decide) ?_
  refine pm_istore_n (lv2 := [(1, _), (0, _)]) dX11_claimsMade_1 rfl (Nat.le_of_ble_eq_true rfl) rfl ?_
  refine pm_iconst (v := 0) dX11_claimsMade_2 (by decide) ?_
  refine pm_istore_n (lv2 := [(2, _), (1, _), (0, _)]) dX11_claimsMade_3 rfl (Nat.le_of_ble_eq_true rfl) rfl ?_
  suffices H : ∀ i, i ≤ S 11 → pm_W l G m_X11_claimsMade ad 4 [(2, .int (nI i)), (1, .int (nI (th_cc A i))), (0, .ref (ad 0 0))] [] (th_cw ad S A X Y F Hd Cs m) 0 0 Q from H 0 (Nat.zero_le _)
  refine th_loop _ ?_
  intro i hi k
  refine pm_iload_n dX11_claimsMade_4 rfl rfl ?_
  refine pm_aload_n dX11_claimsMade_5 rfl rfl ?_
  refine pm_get fl_RX11_24_11 dX11_claimsMade_6 rfl rfl ?_
  refine pm_alen (by decide) dX11_claimsMade_9 rfl ?_
  show pm_W _ _ _ _ _ _ (.int (nI 8) :: _) _ _ _ _
  refine pm_icmp_ge (tgt := 44) dX11_claimsMade_10 (by decide) (fun c_10 => ?_) (fun c_10 => ?_)
  · refine pm_iload_n dX11_claimsMade_44 rfl rfl ?_
    refine pm_iret dX11_claimsMade_45 rfl rfl rfl ?_
    have he : i = S 11 := by
      rw [nI_leI (by decide) (by omega)] at c_10
      omega
    refine th_r ?_ hQ
    rw [he]
  · refine pm_aload_n dX11_claimsMade_13 rfl rfl ?_
    refine pm_get fl_RX11_24_11 dX11_claimsMade_14 rfl rfl ?_
    refine pm_iload_n dX11_claimsMade_17 rfl rfl ?_
    have hi8 : i < 8 := by
      rw [nI_leI (by decide) (by omega)] at c_10
      omega
    refine pm_aaldN dX11_claimsMade_18 rfl (th_in hi8 (by decide)) ?_
    rw [th_cl (by omega)]
    unfold th_rs
    by_cases hlt : i < S 11
    · rw [if_pos hlt]
      show pm_W _ _ _ _ _ _ (.ref (ad 2 i) :: _) _ _ _ _
      refine pm_ifnull dX11_claimsMade_19 ?_
      refine pm_aload_n dX11_claimsMade_22 rfl rfl ?_
      refine pm_get fl_RX11_24_11 dX11_claimsMade_23 rfl rfl ?_
      refine pm_iload_n dX11_claimsMade_26 rfl rfl ?_
      refine pm_aaldN dX11_claimsMade_27 rfl (th_in hi8 (by decide)) ?_
      rw [th_cl (by omega)]
      unfold th_rs
      rw [if_pos hlt]
      show pm_W _ _ _ _ _ _ (.ref (ad 2 i) :: _) _ _ _ _
      refine pm_get (fn_RX11_159 _) dX11_claimsMade_28 (show pm_get? _ 2 i = _ from th_nt_get hlt) rfl ?_
      refine pm_iconst (v := (-1)) dX11_claimsMade_31 (by decide) ?_
      refine pm_icmp_eq (tgt := 38) dX11_claimsMade_32 (by decide) (fun c_32 => ?_) (fun c_32 => ?_)
      · refine pm_iinc (lv2 := [(2, _), (1, _), (0, _)]) dX11_claimsMade_38 rfl (nI_1 i) (Nat.le_of_ble_eq_true rfl) rfl ?_
        refine pm_goto (tgt := 4) dX11_claimsMade_41 (by decide) ?_
        refine pm_pick [0, 1, 2] rfl ?_
        have k2 := k hlt
        rw [th_cc0 c_32] at k2
        exact k2
      · refine pm_iinc (lv2 := [(1, _), (2, _), (0, _)]) dX11_claimsMade_35 rfl (nI_1 _) (Nat.le_of_ble_eq_true rfl) rfl ?_
        refine pm_iinc (lv2 := [(2, _), (1, _), (0, _)]) dX11_claimsMade_38 rfl (nI_1 i) (Nat.le_of_ble_eq_true rfl) rfl ?_
        refine pm_goto (tgt := 4) dX11_claimsMade_41 (by decide) ?_
        refine pm_pick [0, 1, 2] rfl ?_
        have k2 := k hlt
        rw [th_cc1 c_32] at k2
        exact k2
    · rw [if_neg hlt]
      show pm_W _ _ _ _ _ _ (.null :: _) _ _ _ _
      refine pm_ifnullN (tgt := 44) dX11_claimsMade_19 (by decide) ?_
      refine pm_iload_n dX11_claimsMade_44 rfl rfl ?_
      refine pm_iret dX11_claimsMade_45 rfl rfl rfl ?_
      have he : i = S 11 := by omega
      refine th_r ?_ hQ
      rw [he]

set_option maxHeartbeats 600000 in
set_option maxRecDepth 100000 in
theorem c_X11_count {l : Launch} {G : pm_G} {ad : Nat → Nat → Nat} {S : Nat → Nat} {A : Nat → Nat → Int32} {X : Nat → Int32} {Y : Nat → Nat → Int32} {F : Nat → Int64} {Hd Cs : Nat → Option Nat} {m : List pm_A} {Q : pm_T} {x : Int32} (hI : th_I S A) (hQ : Q ad (some (.int (th_countA S A x))) (th_cw ad S A X Y F Hd Cs m)) : pm_C l G m_X11_count [.ref (ad 0 0), .int x] ad (th_cw ad S A X Y F Hd Cs m) Q := by
  refine pm_met (by decide) (Nat.le_of_ble_eq_true rfl) ?_
  refine pm_iload_n dX11_count_0 rfl rfl ?_
  by_cases s_1_0 : x = 0
  · refine pm_tableIn (off := 43) (tgt := 44) dX11_count_1 (by rw [s_1_0]; decide) (by rw [s_1_0]; decide) (by rw [s_1_0]; decide) (by decide) ?_
    refine pm_aload_n dX11_count_44 rfl rfl ?_
    refine pm_get fl_RX11_82_11 dX11_count_45 rfl rfl ?_
    refine pm_iret dX11_count_48 rfl rfl rfl ?_
    refine th_r ?_ hQ
    rw [th_countA, if_pos s_1_0]
  · skip
    by_cases s_1_1 : x = 1
    · refine pm_tableIn (off := 48) (tgt := 49) dX11_count_1 (by rw [s_1_1]; decide) (by rw [s_1_1]; decide) (by rw [s_1_1]; decide) (by decide) ?_
      refine pm_aload_n dX11_count_49 rfl rfl ?_
      refine pm_get fl_RX11_103_11 dX11_count_50 rfl rfl ?_
      refine pm_iret dX11_count_53 rfl rfl rfl ?_
      refine th_r ?_ hQ
      rw [th_countA, if_neg s_1_0, if_pos s_1_1]
    · skip
      by_cases s_1_2 : x = 2
      · refine pm_tableIn (off := 53) (tgt := 54) dX11_count_1 (by rw [s_1_2]; decide) (by rw [s_1_2]; decide) (by rw [s_1_2]; decide) (by decide) ?_
        refine pm_aload_n dX11_count_54 rfl rfl ?_
        refine pm_callV (M2 := m_X11_brokenNuts) (As := []) ok_X11_brokenNuts (ci := 11) rfl kw_907 kw_909 kw_15 dX11_count_55 rfl rfl rfl (Nat.le_of_ble_eq_true rfl) ⟨⟨Nat.le_of_ble_eq_true rfl, Nat.le_of_ble_eq_true rfl⟩, Nat.le_of_ble_eq_true rfl, Nat.le_of_ble_eq_true rfl⟩ ?_
        refine c_X11_brokenNuts hI ?_
        refine pm_iret dX11_count_58 rfl rfl rfl ?_
        refine th_r ?_ hQ
        rw [th_countA, if_neg s_1_0, if_neg s_1_1, if_pos s_1_2]
      · skip
        by_cases s_1_3 : x = 3
        · refine pm_tableIn (off := 58) (tgt := 59) dX11_count_1 (by rw [s_1_3]; decide) (by rw [s_1_3]; decide) (by rw [s_1_3]; decide) (by decide) ?_
          refine pm_aload_n dX11_count_59 rfl rfl ?_
          refine pm_get fl_RX11_38_11 dX11_count_60 rfl rfl ?_
          refine pm_get fl_RX11_188_3 dX11_count_63 rfl rfl ?_
          refine pm_iret dX11_count_66 rfl rfl rfl ?_
          refine th_r ?_ hQ
          rw [th_countA, if_neg s_1_0, if_neg s_1_1, if_neg s_1_2, if_pos s_1_3]
        · skip
          by_cases s_1_4 : x = 4
          · refine pm_tableIn (off := 66) (tgt := 67) dX11_count_1 (by rw [s_1_4]; decide) (by rw [s_1_4]; decide) (by rw [s_1_4]; decide) (by decide) ?_
            refine pm_aload_n dX11_count_67 rfl rfl ?_
            refine pm_callV (M2 := m_X11_claimsMade) (As := []) ok_X11_claimsMade (ci := 11) rfl kw_911 kw_913 kw_16 dX11_count_68 rfl rfl rfl (Nat.le_of_ble_eq_true rfl) ⟨⟨Nat.le_of_ble_eq_true rfl, Nat.le_of_ble_eq_true rfl⟩, Nat.le_of_ble_eq_true rfl, Nat.le_of_ble_eq_true rfl⟩ ?_
            refine c_X11_claimsMade hI ?_
            refine pm_iret dX11_count_71 rfl rfl rfl ?_
            refine th_r ?_ hQ
            rw [th_countA, if_neg s_1_0, if_neg s_1_1, if_neg s_1_2, if_neg s_1_3, if_pos s_1_4]
          · skip
            by_cases s_1_5 : x = 5
            · refine pm_tableIn (off := 71) (tgt := 72) dX11_count_1 (by rw [s_1_5]; decide) (by rw [s_1_5]; decide) (by rw [s_1_5]; decide) (by decide) ?_
              refine pm_aload_n dX11_count_72 rfl rfl ?_
              refine pm_get fl_RX11_52_11 dX11_count_73 rfl rfl ?_
              refine pm_get fl_RX11_265_2 dX11_count_76 rfl rfl ?_
              refine pm_iret dX11_count_79 rfl rfl rfl ?_
              refine th_r ?_ hQ
              rw [th_countA, if_neg s_1_0, if_neg s_1_1, if_neg s_1_2, if_neg s_1_3, if_neg s_1_4, if_pos s_1_5]
            · skip
              by_cases s_1_6 : x = 6
              · refine pm_tableIn (off := 79) (tgt := 80) dX11_count_1 (by rw [s_1_6]; decide) (by rw [s_1_6]; decide) (by rw [s_1_6]; decide) (by decide) ?_
                refine pm_aload_n dX11_count_80 rfl rfl ?_
                refine pm_get fl_RX11_12_11 dX11_count_81 rfl rfl ?_
                refine pm_getN (j := 2) cl_6 (fun q hq => by cases hq; exact ⟨by decide, kw_116⟩) dX11_count_84 rfl rfl ?_
                refine pm_iret dX11_count_87 rfl rfl rfl ?_
                refine th_r ?_ hQ
                rw [th_countA, if_neg s_1_0, if_neg s_1_1, if_neg s_1_2, if_neg s_1_3, if_neg s_1_4, if_neg s_1_5, if_pos s_1_6]
              · skip
                refine pm_tableOut (tgt := 88) dX11_count_1 (by have q0 := th_ne s_1_0 (z := 0) (by decide); have q1 := th_ne s_1_1 (z := 1) (by decide); have q2 := th_ne s_1_2 (z := 2) (by decide); have q3 := th_ne s_1_3 (z := 3) (by decide); have q4 := th_ne s_1_4 (z := 4) (by decide); have q5 := th_ne s_1_5 (z := 5) (by decide); have q6 := th_ne s_1_6 (z := 6) (by decide); omega) (by decide) ?_
                refine pm_bipush (v := (-102)) dX11_count_88 (by decide) ?_
                refine pm_iret dX11_count_90 rfl rfl rfl ?_
                refine th_r ?_ hQ
                rw [th_countA, if_neg s_1_0, if_neg s_1_1, if_neg s_1_2, if_neg s_1_3, if_neg s_1_4, if_neg s_1_5, if_neg s_1_6]

def th_d1 (A : Nat → Nat → Int32) (h : Int64) : Nat → Int64
  | 0 => h
  | j + 1 => 31 * (31 * th_d1 A h j + (th_ca A j 3 4).toInt64) + (th_ca A j 7 2).toInt64
def th_da (A : Nat → Nat → Int32) (h : Int64) (i : Nat) : Nat → Int64
  | 0 => h
  | w + 1 => 31 * th_da A h i w + (th_abt A i (nI w)).toInt64
def th_d3 (A : Nat → Nat → Int32) (h : Int64) : Nat → Int64
  | 0 => h
  | i + 1 => 31 * th_da A (th_d3 A h i) i 8 + (A 14 i).toInt64
def th_d4 (A : Nat → Nat → Int32) (h : Int64) : Nat → Int64
  | 0 => h
  | f + 1 => 31 * (31 * th_d4 A h f + (A 15 f).toInt64) + (A 16 f).toInt64
def th_d6 (A : Nat → Nat → Int32) (h : Int64) : Nat → Int64
  | 0 => h
  | k + 1 => 31 * (31 * (31 * th_d6 A h k + (A 19 k).toInt64) + (A 20 k).toInt64) + (A 21 k).toInt64
def th_d7 (S : Nat → Nat) (A : Nat → Nat → Int32) (h : Int64) : Nat → Int64
  | 0 => h
  | i + 1 => 31 * th_d7 S A h i + (nI (th_sn S A i (2 ^ S 34)).2).toInt64
def th_d8 (A : Nat → Nat → Int32) (h : Int64) : Nat → Int64
  | 0 => h
  | k + 1 => 31 * th_d8 A h k + (A 1 k).toInt64
def th_d9 (S : Nat → Nat) (A : Nat → Nat → Int32) (h : Int64) : Nat → Int64
  | 0 => h
  | w + 1 => 31 * th_d9 S A h w + (th_countA S A (nI w)).toInt64
def th_dh (S : Nat → Nat) (A : Nat → Nat → Int32) : Int64 := th_d4 A (th_d3 A (31 * th_d1 A 409 (S 2) + (nI (S 6)).toInt64) (S 11)) (S 26)
def th_di (S : Nat → Nat) (A : Nat → Nat → Int32) (h : Int64) : Int64 := th_d9 S A (th_d8 A (th_d7 S A (th_d6 A h (S 34)) (S 11)) (S 1)) 7
def th_digA (S : Nat → Nat) (A : Nat → Nat → Int32) : Int64 := th_di S A (31 * (31 * th_dh S A + (th_e1 (-1) (th_fw S A (2 ^ S 26))).toInt64) + (th_e2 (-1) (th_fw S A (2 ^ S 26))).toInt64)
set_option maxHeartbeats 600000 in
set_option maxRecDepth 100000 in
theorem g_dg1 {l : Launch} {G : pm_G} {ad : Nat → Nat → Nat} {a0 a3 a4 a5 a6 a7 : List pm_A} {a1 a2 : Nat → Option pm_A} {S : Nat → Nat} {A : Nat → Nat → Int32} {s : Nat → Int32} {B : Nat → Nat → Int32} {Q : pm_T} {h : Int64} (hI : th_I S A) (k : pm_W l G m_X12_digest ad 48 [(0, .ref (ad 8 0))] [] (a0, a1, a2, a3, a4, a5, a6, a7, th_mp ad S A s B (th_d1 A h (S 2))) 0 0 Q) : pm_W l G m_X12_digest ad 7 [(0, .ref (ad 8 0))] [] (a0, a1, a2, a3, a4, a5, a6, a7, th_mp ad S A s B h) 0 0 Q := by
  have h8 := hI.2.2.2.2.1.1
  have h10 := hI.2.2.2.2.2.1.1
  have h3 := hI.2.1.1
  have h34 := hI.2.2.2.2.2.2.1.1
  have h20 := hI.1.1
  refine pm_iconst (v := 0) dX12_digest_7 (by decide) ?_
  refine pm_istore_n (lv2 := [(1, _), (0, _)]) dX12_digest_8 rfl (Nat.le_of_ble_eq_true rfl) rfl ?_
  suffices H : ∀ i, i ≤ S 2 → pm_W l G m_X12_digest ad 9 [(1, .int (nI i)), (0, .ref (ad 8 0))] [] (a0, a1, a2, a3, a4, a5, a6, a7, th_mp ad S A s B (th_d1 A h i)) 0 0 Q from H 0 (Nat.zero_le _)
  refine th_loop _ ?_
  intro i hi kk
  refine pm_iload_n dX12_digest_9 rfl rfl ?_
  refine pm_aload_n dX12_digest_10 rfl rfl ?_
  refine pm_get fl_RX12_111_12 dX12_digest_11 rfl rfl ?_
  refine pm_icmp_ge (tgt := 48) dX12_digest_14 (by decide) (fun c_14 => ?_) (fun c_14 => ?_)
  · refine pm_pick [1] rfl ?_
    have he : i = S 2 := by
      rw [nI_leI (by omega) (by omega)] at c_14
      omega
    subst he
    exact k
  · have hlt : i < S 2 := by
      rw [nI_leI (by omega) (by omega)] at c_14
      omega
    refine pm_aload_n dX12_digest_17 rfl rfl ?_
    refine pm_aload_n dX12_digest_18 rfl rfl ?_
    refine pm_iload_n dX12_digest_19 rfl rfl ?_
    refine pm_iconst (v := 3) dX12_digest_20 (by decide) ?_
    refine pm_iconst (v := 4) dX12_digest_21 (by decide) ?_
    refine pm_callV (M2 := m_X12_countsOf) (As := [_, _, _]) ok_X12_countsOf (ci := 12) rfl kw_1131 kw_1133 kw_23 dX12_digest_22 rfl rfl rfl (Nat.le_of_ble_eq_true rfl) ⟨⟨Nat.le_of_ble_eq_true rfl, Nat.le_of_ble_eq_true rfl⟩, Nat.le_of_ble_eq_true rfl, Nat.le_of_ble_eq_true rfl⟩ ?_
    refine c_X12_countsOf hI.2.1 hlt ?_
    refine pm_i2l dX12_digest_25 ?_
    refine pm_callV (M2 := m_X12_say) (As := [_]) ok_X12_say (ci := 12) rfl kw_1368 kw_1370 kw_44 dX12_digest_26 rfl rfl rfl (Nat.le_of_ble_eq_true rfl) ⟨⟨Nat.le_of_ble_eq_true rfl, Nat.le_of_ble_eq_true rfl⟩, Nat.le_of_ble_eq_true rfl, Nat.le_of_ble_eq_true rfl⟩ ?_
    refine c_X12_say ?_
    refine pm_aload_n dX12_digest_29 rfl rfl ?_
    refine pm_aload_n dX12_digest_30 rfl rfl ?_
    refine pm_iload_n dX12_digest_31 rfl rfl ?_
    refine pm_bipush (v := 7) dX12_digest_32 (by decide) ?_
    refine pm_iconst (v := 2) dX12_digest_34 (by decide) ?_
    refine pm_callV (M2 := m_X12_countsOf) (As := [_, _, _]) ok_X12_countsOf (ci := 12) rfl kw_1131 kw_1133 kw_23 dX12_digest_35 rfl rfl rfl (Nat.le_of_ble_eq_true rfl) ⟨⟨Nat.le_of_ble_eq_true rfl, Nat.le_of_ble_eq_true rfl⟩, Nat.le_of_ble_eq_true rfl, Nat.le_of_ble_eq_true rfl⟩ ?_
    refine c_X12_countsOf hI.2.1 hlt ?_
    refine pm_i2l dX12_digest_38 ?_
    refine pm_callV (M2 := m_X12_say) (As := [_]) ok_X12_say (ci := 12) rfl kw_1368 kw_1370 kw_44 dX12_digest_39 rfl rfl rfl (Nat.le_of_ble_eq_true rfl) ⟨⟨Nat.le_of_ble_eq_true rfl, Nat.le_of_ble_eq_true rfl⟩, Nat.le_of_ble_eq_true rfl, Nat.le_of_ble_eq_true rfl⟩ ?_
    refine c_X12_say ?_
    refine pm_iinc (lv2 := [(1, _), (0, _)]) dX12_digest_42 rfl (nI_1 i) (Nat.le_of_ble_eq_true rfl) rfl ?_
    refine pm_goto (tgt := 9) dX12_digest_45 (by decide) ?_
    refine pm_pick [0, 1] rfl ?_
    exact kk hlt

set_option maxHeartbeats 600000 in
set_option maxRecDepth 100000 in
theorem g_dga {l : Launch} {G : pm_G} {ad : Nat → Nat → Nat} {a0 a3 a4 a5 a6 a7 : List pm_A} {a1 a2 : Nat → Option pm_A} {S : Nat → Nat} {A : Nat → Nat → Int32} {s : Nat → Int32} {B : Nat → Nat → Int32} {Q : pm_T} {h : Int64} {i : Nat} (hI : th_I S A) (hlt : i < S 11) (k : pm_W l G m_X12_digest ad 92 [(1, .int (nI i)), (0, .ref (ad 8 0))] [] (a0, a1, a2, a3, a4, a5, a6, a7, th_mp ad S A s B (th_da A h i 8)) 0 0 Q) : pm_W l G m_X12_digest ad 67 [(1, .int (nI i)), (0, .ref (ad 8 0))] [] (a0, a1, a2, a3, a4, a5, a6, a7, th_mp ad S A s B h) 0 0 Q := by
  have h8 := hI.2.2.2.2.1.1
  have h10 := hI.2.2.2.2.2.1.1
  have h3 := hI.2.1.1
  have h34 := hI.2.2.2.2.2.2.1.1
  have h20 := hI.1.1
  obtain ⟨⟨ki, hki, eki⟩, -⟩ := th_nk hI hlt
  refine pm_iconst (v := 0) dX12_digest_67 (by decide) ?_
  refine pm_istore_n (lv2 := [(2, _), (1, _), (0, _)]) dX12_digest_68 rfl (Nat.le_of_ble_eq_true rfl) rfl ?_
  suffices H : ∀ w, w ≤ 8 → pm_W l G m_X12_digest ad 69 [(2, .int (nI w)), (1, .int (nI i)), (0, .ref (ad 8 0))] [] (a0, a1, a2, a3, a4, a5, a6, a7, th_mp ad S A s B (th_da A h i w)) 0 0 Q from H 0 (Nat.zero_le _)
  refine th_loop _ ?_
  intro w hw kk
  refine pm_iload_n dX12_digest_69 rfl rfl ?_
  refine pm_bipush (v := 8) dX12_digest_70 (by decide) ?_
  refine pm_icmp_ge (tgt := 92) dX12_digest_72 (by decide) (fun c_72 => ?_) (fun c_72 => ?_)
  · refine pm_pick [1, 2] rfl ?_
    have he : w = 8 := by
      rw [show (8 : Int32) = nI 8 from rfl, nI_leI (by decide) (by omega)] at c_72
      omega
    rw [he]
    exact k
  · have hw8 : w < 8 := by
      rw [show (8 : Int32) = nI 8 from rfl, nI_leI (by decide) (by omega)] at c_72
      omega
    refine pm_aload_n dX12_digest_75 rfl rfl ?_
    refine pm_aload_n dX12_digest_76 rfl rfl ?_
    refine pm_iload_n dX12_digest_77 rfl rfl ?_
    refine pm_iload_n dX12_digest_78 rfl rfl ?_
    refine pm_callV (M2 := m_X12_aboutOf) (As := [_, _]) ok_X12_aboutOf (ci := 12) rfl kw_1162 kw_1164 kw_25 dX12_digest_79 rfl rfl rfl (Nat.le_of_ble_eq_true rfl) ⟨⟨Nat.le_of_ble_eq_true rfl, Nat.le_of_ble_eq_true rfl⟩, Nat.le_of_ble_eq_true rfl, Nat.le_of_ble_eq_true rfl⟩ ?_
    refine c_X12_aboutOf (by omega) hki eki ?_
    refine pm_i2l dX12_digest_82 ?_
    refine pm_callV (M2 := m_X12_say) (As := [_]) ok_X12_say (ci := 12) rfl kw_1368 kw_1370 kw_44 dX12_digest_83 rfl rfl rfl (Nat.le_of_ble_eq_true rfl) ⟨⟨Nat.le_of_ble_eq_true rfl, Nat.le_of_ble_eq_true rfl⟩, Nat.le_of_ble_eq_true rfl, Nat.le_of_ble_eq_true rfl⟩ ?_
    refine c_X12_say ?_
    refine pm_iinc (lv2 := [(2, _), (1, _), (0, _)]) dX12_digest_86 rfl (nI_1 w) (Nat.le_of_ble_eq_true rfl) rfl ?_
    refine pm_goto (tgt := 69) dX12_digest_89 (by decide) ?_
    refine pm_pick [0, 1, 2] rfl ?_
    exact kk hw8

set_option maxHeartbeats 600000 in
set_option maxRecDepth 100000 in
theorem g_dg3 {l : Launch} {G : pm_G} {ad : Nat → Nat → Nat} {a0 a3 a4 a5 a6 a7 : List pm_A} {a1 a2 : Nat → Option pm_A} {S : Nat → Nat} {A : Nat → Nat → Int32} {s : Nat → Int32} {B : Nat → Nat → Int32} {Q : pm_T} {h : Int64} (hI : th_I S A) (k : pm_W l G m_X12_digest ad 109 [(0, .ref (ad 8 0))] [] (a0, a1, a2, a3, a4, a5, a6, a7, th_mp ad S A s B (th_d3 A h (S 11))) 0 0 Q) : pm_W l G m_X12_digest ad 57 [(0, .ref (ad 8 0))] [] (a0, a1, a2, a3, a4, a5, a6, a7, th_mp ad S A s B h) 0 0 Q := by
  have h8 := hI.2.2.2.2.1.1
  have h10 := hI.2.2.2.2.2.1.1
  have h3 := hI.2.1.1
  have h34 := hI.2.2.2.2.2.2.1.1
  have h20 := hI.1.1
  refine pm_iconst (v := 0) dX12_digest_57 (by decide) ?_
  refine pm_istore_n (lv2 := [(1, _), (0, _)]) dX12_digest_58 rfl (Nat.le_of_ble_eq_true rfl) rfl ?_
  suffices H : ∀ i, i ≤ S 11 → pm_W l G m_X12_digest ad 59 [(1, .int (nI i)), (0, .ref (ad 8 0))] [] (a0, a1, a2, a3, a4, a5, a6, a7, th_mp ad S A s B (th_d3 A h i)) 0 0 Q from H 0 (Nat.zero_le _)
  refine th_loop _ ?_
  intro i hi kk
  refine pm_iload_n dX12_digest_59 rfl rfl ?_
  refine pm_aload_n dX12_digest_60 rfl rfl ?_
  refine pm_get fl_RX12_137_12 dX12_digest_61 rfl rfl ?_
  refine pm_icmp_ge (tgt := 109) dX12_digest_64 (by decide) (fun c_64 => ?_) (fun c_64 => ?_)
  · refine pm_pick [1] rfl ?_
    have he : i = S 11 := by
      rw [nI_leI (by omega) (by omega)] at c_64
      omega
    subst he
    exact k
  · have hlt : i < S 11 := by
      rw [nI_leI (by omega) (by omega)] at c_64
      omega
    refine g_dga hI hlt ?_
    refine pm_aload_n dX12_digest_92 rfl rfl ?_
    refine pm_aload_n dX12_digest_93 rfl rfl ?_
    refine pm_get fl_RX12_50_12 dX12_digest_94 rfl rfl ?_
    refine pm_iload_n dX12_digest_97 rfl rfl ?_
    refine pm_iald dX12_digest_98 rfl (th_in (by omega) (by decide)) ?_
    rw [th_cl (by omega)]
    refine pm_i2l dX12_digest_99 ?_
    refine pm_callV (M2 := m_X12_say) (As := [_]) ok_X12_say (ci := 12) rfl kw_1368 kw_1370 kw_44 dX12_digest_100 rfl rfl rfl (Nat.le_of_ble_eq_true rfl) ⟨⟨Nat.le_of_ble_eq_true rfl, Nat.le_of_ble_eq_true rfl⟩, Nat.le_of_ble_eq_true rfl, Nat.le_of_ble_eq_true rfl⟩ ?_
    refine c_X12_say ?_
    refine pm_iinc (lv2 := [(1, _), (0, _)]) dX12_digest_103 rfl (nI_1 i) (Nat.le_of_ble_eq_true rfl) rfl ?_
    refine pm_goto (tgt := 59) dX12_digest_106 (by decide) ?_
    refine pm_pick [0, 1] rfl ?_
    exact kk hlt

set_option maxHeartbeats 600000 in
set_option maxRecDepth 100000 in
theorem g_dg4 {l : Launch} {G : pm_G} {ad : Nat → Nat → Nat} {a0 a3 a4 a5 a6 a7 : List pm_A} {a1 a2 : Nat → Option pm_A} {S : Nat → Nat} {A : Nat → Nat → Int32} {s : Nat → Int32} {B : Nat → Nat → Int32} {Q : pm_T} {h : Int64} (hI : th_I S A) (k : pm_W l G m_X12_digest ad 147 [(0, .ref (ad 8 0))] [] (a0, a1, a2, a3, a4, a5, a6, a7, th_mp ad S A s B (th_d4 A h (S 26))) 0 0 Q) : pm_W l G m_X12_digest ad 109 [(0, .ref (ad 8 0))] [] (a0, a1, a2, a3, a4, a5, a6, a7, th_mp ad S A s B h) 0 0 Q := by
  have h8 := hI.2.2.2.2.1.1
  have h10 := hI.2.2.2.2.2.1.1
  have h3 := hI.2.1.1
  have h34 := hI.2.2.2.2.2.2.1.1
  have h20 := hI.1.1
  refine pm_iconst (v := 0) dX12_digest_109 (by decide) ?_
  refine pm_istore_n (lv2 := [(1, _), (0, _)]) dX12_digest_110 rfl (Nat.le_of_ble_eq_true rfl) rfl ?_
  suffices H : ∀ i, i ≤ S 26 → pm_W l G m_X12_digest ad 111 [(1, .int (nI i)), (0, .ref (ad 8 0))] [] (a0, a1, a2, a3, a4, a5, a6, a7, th_mp ad S A s B (th_d4 A h i)) 0 0 Q from H 0 (Nat.zero_le _)
  refine th_loop _ ?_
  intro i hi kk
  refine pm_iload_n dX12_digest_111 rfl rfl ?_
  refine pm_aload_n dX12_digest_112 rfl rfl ?_
  refine pm_get fl_RX12_193_12 dX12_digest_113 rfl rfl ?_
  refine pm_icmp_ge (tgt := 147) dX12_digest_116 (by decide) (fun c_116 => ?_) (fun c_116 => ?_)
  · refine pm_pick [1] rfl ?_
    have he : i = S 26 := by
      rw [nI_leI (by omega) (by omega)] at c_116
      omega
    subst he
    exact k
  · have hlt : i < S 26 := by
      rw [nI_leI (by omega) (by omega)] at c_116
      omega
    refine pm_aload_n dX12_digest_119 rfl rfl ?_
    refine pm_aload_n dX12_digest_120 rfl rfl ?_
    refine pm_get fl_RX12_53_12 dX12_digest_121 rfl rfl ?_
    refine pm_iload_n dX12_digest_124 rfl rfl ?_
    refine pm_iald dX12_digest_125 rfl (th_in (by omega) (by decide)) ?_
    rw [th_cl (by omega)]
    refine pm_i2l dX12_digest_126 ?_
    refine pm_callV (M2 := m_X12_say) (As := [_]) ok_X12_say (ci := 12) rfl kw_1368 kw_1370 kw_44 dX12_digest_127 rfl rfl rfl (Nat.le_of_ble_eq_true rfl) ⟨⟨Nat.le_of_ble_eq_true rfl, Nat.le_of_ble_eq_true rfl⟩, Nat.le_of_ble_eq_true rfl, Nat.le_of_ble_eq_true rfl⟩ ?_
    refine c_X12_say ?_
    refine pm_aload_n dX12_digest_130 rfl rfl ?_
    refine pm_aload_n dX12_digest_131 rfl rfl ?_
    refine pm_get fl_RX12_56_12 dX12_digest_132 rfl rfl ?_
    refine pm_iload_n dX12_digest_135 rfl rfl ?_
    refine pm_iald dX12_digest_136 rfl (th_in (by omega) (by decide)) ?_
    rw [th_cl (by omega)]
    refine pm_i2l dX12_digest_137 ?_
    refine pm_callV (M2 := m_X12_say) (As := [_]) ok_X12_say (ci := 12) rfl kw_1368 kw_1370 kw_44 dX12_digest_138 rfl rfl rfl (Nat.le_of_ble_eq_true rfl) ⟨⟨Nat.le_of_ble_eq_true rfl, Nat.le_of_ble_eq_true rfl⟩, Nat.le_of_ble_eq_true rfl, Nat.le_of_ble_eq_true rfl⟩ ?_
    refine c_X12_say ?_
    refine pm_iinc (lv2 := [(1, _), (0, _)]) dX12_digest_141 rfl (nI_1 i) (Nat.le_of_ble_eq_true rfl) rfl ?_
    refine pm_goto (tgt := 111) dX12_digest_144 (by decide) ?_
    refine pm_pick [0, 1] rfl ?_
    exact kk hlt

set_option maxHeartbeats 600000 in
set_option maxRecDepth 100000 in
theorem g_dg6 {l : Launch} {G : pm_G} {ad : Nat → Nat → Nat} {a0 a3 a4 a5 a6 a7 : List pm_A} {a1 a2 : Nat → Option pm_A} {S : Nat → Nat} {A : Nat → Nat → Int32} {s : Nat → Int32} {B : Nat → Nat → Int32} {Q : pm_T} {h : Int64} (hI : th_I S A) (k : pm_W l G m_X12_digest ad 218 [(0, .ref (ad 8 0))] [] (a0, a1, a2, a3, a4, a5, a6, a7, th_mp ad S A s B (th_d6 A h (S 34))) 0 0 Q) : pm_W l G m_X12_digest ad 169 [(0, .ref (ad 8 0))] [] (a0, a1, a2, a3, a4, a5, a6, a7, th_mp ad S A s B h) 0 0 Q := by
  have h8 := hI.2.2.2.2.1.1
  have h10 := hI.2.2.2.2.2.1.1
  have h3 := hI.2.1.1
  have h34 := hI.2.2.2.2.2.2.1.1
  have h20 := hI.1.1
  refine pm_iconst (v := 0) dX12_digest_169 (by decide) ?_
  refine pm_istore_n (lv2 := [(1, _), (0, _)]) dX12_digest_170 rfl (Nat.le_of_ble_eq_true rfl) rfl ?_
  suffices H : ∀ i, i ≤ S 34 → pm_W l G m_X12_digest ad 171 [(1, .int (nI i)), (0, .ref (ad 8 0))] [] (a0, a1, a2, a3, a4, a5, a6, a7, th_mp ad S A s B (th_d6 A h i)) 0 0 Q from H 0 (Nat.zero_le _)
  refine th_loop _ ?_
  intro i hi kk
  refine pm_iload_n dX12_digest_171 rfl rfl ?_
  refine pm_aload_n dX12_digest_172 rfl rfl ?_
  refine pm_get fl_RX12_259_12 dX12_digest_173 rfl rfl ?_
  refine pm_icmp_ge (tgt := 218) dX12_digest_176 (by decide) (fun c_176 => ?_) (fun c_176 => ?_)
  · refine pm_pick [1] rfl ?_
    have he : i = S 34 := by
      rw [nI_leI (by omega) (by omega)] at c_176
      omega
    subst he
    exact k
  · have hlt : i < S 34 := by
      rw [nI_leI (by omega) (by omega)] at c_176
      omega
    refine pm_aload_n dX12_digest_179 rfl rfl ?_
    refine pm_aload_n dX12_digest_180 rfl rfl ?_
    refine pm_get fl_RX12_65_12 dX12_digest_181 rfl rfl ?_
    refine pm_iload_n dX12_digest_184 rfl rfl ?_
    refine pm_iald dX12_digest_185 rfl (th_in (by omega) (by decide)) ?_
    rw [th_cl (by omega)]
    refine pm_i2l dX12_digest_186 ?_
    refine pm_callV (M2 := m_X12_say) (As := [_]) ok_X12_say (ci := 12) rfl kw_1368 kw_1370 kw_44 dX12_digest_187 rfl rfl rfl (Nat.le_of_ble_eq_true rfl) ⟨⟨Nat.le_of_ble_eq_true rfl, Nat.le_of_ble_eq_true rfl⟩, Nat.le_of_ble_eq_true rfl, Nat.le_of_ble_eq_true rfl⟩ ?_
    refine c_X12_say ?_
    refine pm_aload_n dX12_digest_190 rfl rfl ?_
    refine pm_aload_n dX12_digest_191 rfl rfl ?_
    refine pm_get fl_RX12_68_12 dX12_digest_192 rfl rfl ?_
    refine pm_iload_n dX12_digest_195 rfl rfl ?_
    refine pm_iald dX12_digest_196 rfl (th_in (by omega) (by decide)) ?_
    rw [th_cl (by omega)]
    refine pm_i2l dX12_digest_197 ?_
    refine pm_callV (M2 := m_X12_say) (As := [_]) ok_X12_say (ci := 12) rfl kw_1368 kw_1370 kw_44 dX12_digest_198 rfl rfl rfl (Nat.le_of_ble_eq_true rfl) ⟨⟨Nat.le_of_ble_eq_true rfl, Nat.le_of_ble_eq_true rfl⟩, Nat.le_of_ble_eq_true rfl, Nat.le_of_ble_eq_true rfl⟩ ?_
    refine c_X12_say ?_
    refine pm_aload_n dX12_digest_201 rfl rfl ?_
    refine pm_aload_n dX12_digest_202 rfl rfl ?_
    refine pm_get fl_RX12_71_12 dX12_digest_203 rfl rfl ?_
    refine pm_iload_n dX12_digest_206 rfl rfl ?_
    refine pm_iald dX12_digest_207 rfl (th_in (by omega) (by decide)) ?_
    rw [th_cl (by omega)]
    refine pm_i2l dX12_digest_208 ?_
    refine pm_callV (M2 := m_X12_say) (As := [_]) ok_X12_say (ci := 12) rfl kw_1368 kw_1370 kw_44 dX12_digest_209 rfl rfl rfl (Nat.le_of_ble_eq_true rfl) ⟨⟨Nat.le_of_ble_eq_true rfl, Nat.le_of_ble_eq_true rfl⟩, Nat.le_of_ble_eq_true rfl, Nat.le_of_ble_eq_true rfl⟩ ?_
    refine c_X12_say ?_
    refine pm_iinc (lv2 := [(1, _), (0, _)]) dX12_digest_212 rfl (nI_1 i) (Nat.le_of_ble_eq_true rfl) rfl ?_
    refine pm_goto (tgt := 171) dX12_digest_215 (by decide) ?_
    refine pm_pick [0, 1] rfl ?_
    exact kk hlt

set_option maxHeartbeats 600000 in
set_option maxRecDepth 100000 in
theorem g_dg7 {l : Launch} {G : pm_G} {ad : Nat → Nat → Nat} {a0 a3 a4 a5 a6 a7 : List pm_A} {a1 a2 : Nat → Option pm_A} {S : Nat → Nat} {A : Nat → Nat → Int32} {s : Nat → Int32} {B : Nat → Nat → Int32} {Q : pm_T} {h : Int64} (hI : th_I S A) (k : pm_W l G m_X12_digest ad 244 [(0, .ref (ad 8 0))] [] (a0, a1, a2, a3, a4, a5, a6, a7, th_mp ad S A s B (th_d7 S A h (S 11))) 0 0 Q) : pm_W l G m_X12_digest ad 218 [(0, .ref (ad 8 0))] [] (a0, a1, a2, a3, a4, a5, a6, a7, th_mp ad S A s B h) 0 0 Q := by
  have h8 := hI.2.2.2.2.1.1
  have h10 := hI.2.2.2.2.2.1.1
  have h3 := hI.2.1.1
  have h34 := hI.2.2.2.2.2.2.1.1
  have h20 := hI.1.1
  refine pm_iconst (v := 0) dX12_digest_218 (by decide) ?_
  refine pm_istore_n (lv2 := [(1, _), (0, _)]) dX12_digest_219 rfl (Nat.le_of_ble_eq_true rfl) rfl ?_
  suffices H : ∀ i, i ≤ S 11 → pm_W l G m_X12_digest ad 220 [(1, .int (nI i)), (0, .ref (ad 8 0))] [] (a0, a1, a2, a3, a4, a5, a6, a7, th_mp ad S A s B (th_d7 S A h i)) 0 0 Q from H 0 (Nat.zero_le _)
  refine th_loop _ ?_
  intro i hi kk
  refine pm_iload_n dX12_digest_220 rfl rfl ?_
  refine pm_aload_n dX12_digest_221 rfl rfl ?_
  refine pm_get fl_RX12_137_12 dX12_digest_222 rfl rfl ?_
  refine pm_icmp_ge (tgt := 244) dX12_digest_225 (by decide) (fun c_225 => ?_) (fun c_225 => ?_)
  · refine pm_pick [1] rfl ?_
    have he : i = S 11 := by
      rw [nI_leI (by omega) (by omega)] at c_225
      omega
    subst he
    exact k
  · have hlt : i < S 11 := by
      rw [nI_leI (by omega) (by omega)] at c_225
      omega
    refine pm_aload_n dX12_digest_228 rfl rfl ?_
    refine pm_aload_n dX12_digest_229 rfl rfl ?_
    refine pm_iload_n dX12_digest_230 rfl rfl ?_
    refine pm_callV (M2 := m_X12_seasonOf) (As := [_]) ok_X12_seasonOf (ci := 12) rfl kw_1318 kw_1320 kw_39 dX12_digest_231 rfl rfl rfl (Nat.le_of_ble_eq_true rfl) ⟨⟨Nat.le_of_ble_eq_true rfl, Nat.le_of_ble_eq_true rfl⟩, Nat.le_of_ble_eq_true rfl, Nat.le_of_ble_eq_true rfl⟩ ?_
    refine c_X12_seasonOf hI hlt ?_
    refine pm_i2l dX12_digest_234 ?_
    refine pm_callV (M2 := m_X12_say) (As := [_]) ok_X12_say (ci := 12) rfl kw_1368 kw_1370 kw_44 dX12_digest_235 rfl rfl rfl (Nat.le_of_ble_eq_true rfl) ⟨⟨Nat.le_of_ble_eq_true rfl, Nat.le_of_ble_eq_true rfl⟩, Nat.le_of_ble_eq_true rfl, Nat.le_of_ble_eq_true rfl⟩ ?_
    refine c_X12_say ?_
    refine pm_iinc (lv2 := [(1, _), (0, _)]) dX12_digest_238 rfl (nI_1 i) (Nat.le_of_ble_eq_true rfl) rfl ?_
    refine pm_goto (tgt := 220) dX12_digest_241 (by decide) ?_
    refine pm_pick [0, 1] rfl ?_
    exact kk hlt

set_option maxHeartbeats 600000 in
set_option maxRecDepth 100000 in
theorem g_dg8 {l : Launch} {G : pm_G} {ad : Nat → Nat → Nat} {a0 a3 a4 a5 a6 a7 : List pm_A} {a1 a2 : Nat → Option pm_A} {S : Nat → Nat} {A : Nat → Nat → Int32} {s : Nat → Int32} {B : Nat → Nat → Int32} {Q : pm_T} {h : Int64} (hI : th_I S A) (k : pm_W l G m_X12_digest ad 271 [(0, .ref (ad 8 0))] [] (a0, a1, a2, a3, a4, a5, a6, a7, th_mp ad S A s B (th_d8 A h (S 1))) 0 0 Q) : pm_W l G m_X12_digest ad 244 [(0, .ref (ad 8 0))] [] (a0, a1, a2, a3, a4, a5, a6, a7, th_mp ad S A s B h) 0 0 Q := by
  have h8 := hI.2.2.2.2.1.1
  have h10 := hI.2.2.2.2.2.1.1
  have h3 := hI.2.1.1
  have h34 := hI.2.2.2.2.2.2.1.1
  have h20 := hI.1.1
  refine pm_iconst (v := 0) dX12_digest_244 (by decide) ?_
  refine pm_istore_n (lv2 := [(1, _), (0, _)]) dX12_digest_245 rfl (Nat.le_of_ble_eq_true rfl) rfl ?_
  suffices H : ∀ i, i ≤ S 1 → pm_W l G m_X12_digest ad 246 [(1, .int (nI i)), (0, .ref (ad 8 0))] [] (a0, a1, a2, a3, a4, a5, a6, a7, th_mp ad S A s B (th_d8 A h i)) 0 0 Q from H 0 (Nat.zero_le _)
  refine th_loop _ ?_
  intro i hi kk
  refine pm_iload_n dX12_digest_246 rfl rfl ?_
  refine pm_aload_n dX12_digest_247 rfl rfl ?_
  refine pm_get fl_RX12_82_12 dX12_digest_248 rfl rfl ?_
  refine pm_icmp_ge (tgt := 271) dX12_digest_251 (by decide) (fun c_251 => ?_) (fun c_251 => ?_)
  · refine pm_pick [1] rfl ?_
    have he : i = S 1 := by
      rw [nI_leI (by omega) (by omega)] at c_251
      omega
    subst he
    exact k
  · have hlt : i < S 1 := by
      rw [nI_leI (by omega) (by omega)] at c_251
      omega
    refine pm_aload_n dX12_digest_254 rfl rfl ?_
    refine pm_aload_n dX12_digest_255 rfl rfl ?_
    refine pm_get fl_RX12_7_12 dX12_digest_256 rfl rfl ?_
    refine pm_iload_n dX12_digest_259 rfl rfl ?_
    refine pm_iald dX12_digest_260 rfl (th_in (by omega) (by decide)) ?_
    rw [th_cl (by omega)]
    refine pm_i2l dX12_digest_261 ?_
    refine pm_callV (M2 := m_X12_say) (As := [_]) ok_X12_say (ci := 12) rfl kw_1368 kw_1370 kw_44 dX12_digest_262 rfl rfl rfl (Nat.le_of_ble_eq_true rfl) ⟨⟨Nat.le_of_ble_eq_true rfl, Nat.le_of_ble_eq_true rfl⟩, Nat.le_of_ble_eq_true rfl, Nat.le_of_ble_eq_true rfl⟩ ?_
    refine c_X12_say ?_
    refine pm_iinc (lv2 := [(1, _), (0, _)]) dX12_digest_265 rfl (nI_1 i) (Nat.le_of_ble_eq_true rfl) rfl ?_
    refine pm_goto (tgt := 246) dX12_digest_268 (by decide) ?_
    refine pm_pick [0, 1] rfl ?_
    exact kk hlt

set_option maxHeartbeats 600000 in
set_option maxRecDepth 100000 in
theorem g_dg9 {l : Launch} {G : pm_G} {ad : Nat → Nat → Nat} {a0 a3 a4 a5 a6 a7 : List pm_A} {a1 a2 : Nat → Option pm_A} {S : Nat → Nat} {A : Nat → Nat → Int32} {s : Nat → Int32} {B : Nat → Nat → Int32} {Q : pm_T} {h : Int64} (hI : th_I S A) (k : pm_W l G m_X12_digest ad 295 [(0, .ref (ad 8 0))] [] (a0, a1, a2, a3, a4, a5, a6, a7, th_mp ad S A s B (th_d9 S A h (7))) 0 0 Q) : pm_W l G m_X12_digest ad 271 [(0, .ref (ad 8 0))] [] (a0, a1, a2, a3, a4, a5, a6, a7, th_mp ad S A s B h) 0 0 Q := by
  have h8 := hI.2.2.2.2.1.1
  have h10 := hI.2.2.2.2.2.1.1
  have h3 := hI.2.1.1
  have h34 := hI.2.2.2.2.2.2.1.1
  have h20 := hI.1.1
  refine pm_iconst (v := 0) dX12_digest_271 (by decide) ?_
  refine pm_istore_n (lv2 := [(1, _), (0, _)]) dX12_digest_272 rfl (Nat.le_of_ble_eq_true rfl) rfl ?_
  suffices H : ∀ i, i ≤ 7 → pm_W l G m_X12_digest ad 273 [(1, .int (nI i)), (0, .ref (ad 8 0))] [] (a0, a1, a2, a3, a4, a5, a6, a7, th_mp ad S A s B (th_d9 S A h i)) 0 0 Q from H 0 (Nat.zero_le _)
  refine th_loop _ ?_
  intro i hi kk
  refine pm_iload_n dX12_digest_273 rfl rfl ?_
  refine pm_bipush (v := 7) dX12_digest_274 (by decide) ?_
  refine pm_icmp_ge (tgt := 295) dX12_digest_276 (by decide) (fun c_276 => ?_) (fun c_276 => ?_)
  · refine pm_pick [1] rfl ?_
    have he : i = 7 := by
      rw [show (7 : Int32) = nI 7 from rfl, nI_leI (by decide) (by omega)] at c_276
      omega
    rw [he]
    exact k
  · have hlt : i < 7 := by
      rw [show (7 : Int32) = nI 7 from rfl, nI_leI (by decide) (by omega)] at c_276
      omega
    refine pm_aload_n dX12_digest_279 rfl rfl ?_
    refine pm_aload_n dX12_digest_280 rfl rfl ?_
    refine pm_iload_n dX12_digest_281 rfl rfl ?_
    refine pm_callV (M2 := m_X12_countOf) (As := [_]) ok_X12_countOf (ci := 12) rfl kw_1359 kw_1361 kw_43 dX12_digest_282 rfl rfl rfl (Nat.le_of_ble_eq_true rfl) ⟨⟨Nat.le_of_ble_eq_true rfl, Nat.le_of_ble_eq_true rfl⟩, Nat.le_of_ble_eq_true rfl, Nat.le_of_ble_eq_true rfl⟩ ?_
    refine c_X12_countOf hI ?_
    refine pm_i2l dX12_digest_285 ?_
    refine pm_callV (M2 := m_X12_say) (As := [_]) ok_X12_say (ci := 12) rfl kw_1368 kw_1370 kw_44 dX12_digest_286 rfl rfl rfl (Nat.le_of_ble_eq_true rfl) ⟨⟨Nat.le_of_ble_eq_true rfl, Nat.le_of_ble_eq_true rfl⟩, Nat.le_of_ble_eq_true rfl, Nat.le_of_ble_eq_true rfl⟩ ?_
    refine c_X12_say ?_
    refine pm_iinc (lv2 := [(1, _), (0, _)]) dX12_digest_289 rfl (nI_1 i) (Nat.le_of_ble_eq_true rfl) rfl ?_
    refine pm_goto (tgt := 273) dX12_digest_292 (by decide) ?_
    refine pm_pick [0, 1] rfl ?_
    exact kk hlt

set_option maxHeartbeats 600000 in
set_option maxRecDepth 100000 in
theorem c_X12_digest {l : Launch} {G : pm_G} {ad : Nat → Nat → Nat} {a0 a3 a4 a5 a6 a7 : List pm_A} {a1 a2 : Nat → Option pm_A} {S : Nat → Nat} {A : Nat → Nat → Int32} {s : Nat → Int32} {B : Nat → Nat → Int32} {hs : Int64} {Q : pm_T} (hI : th_I S A) (hQ : ∀ s2 B2 h2, Q ad (some (.long (th_digA S A))) (a0, a1, a2, a3, a4, a5, a6, a7, th_mp ad S A s2 B2 h2)) : pm_C l G m_X12_digest [.ref (ad 8 0)] ad (a0, a1, a2, a3, a4, a5, a6, a7, th_mp ad S A s B hs) Q := by
  refine pm_met (by decide) (Nat.le_of_ble_eq_true rfl) ?_
  refine pm_aload_n dX12_digest_0 rfl rfl ?_
  refine pm_ldc2 kw_1367 dX12_digest_1 ?_
  refine pm_put (w2 := (_, _, _, _, _, _, _, _, [.inr (_, [_, _, _, _, _, _, _, _, _, _, _, _, _, _, _, _, _, _, _, _, _, _, _, _, _, _, _, _, _, _, _, _, _, _, _, _, _, _, _, _, _, _, _, _]), _, _, _, _, _, _, _, _, _, _, _, _, _, _, _, _, _, _, _, _, _, _, _])) fl_RX12_296_12 fp_12_43 dX12_digest_4 rfl rfl rfl (Nat.le_of_ble_eq_true rfl) rfl ?_
  refine g_dg1 (h := 409) hI ?_
  refine pm_aload_n dX12_digest_48 rfl rfl ?_
  refine pm_aload_n dX12_digest_49 rfl rfl ?_
  refine pm_get fl_RX12_128_12 dX12_digest_50 rfl rfl ?_
  refine pm_i2l dX12_digest_53 ?_
  refine pm_callV (M2 := m_X12_say) (As := [_]) ok_X12_say (ci := 12) rfl kw_1368 kw_1370 kw_44 dX12_digest_54 rfl rfl rfl (Nat.le_of_ble_eq_true rfl) ⟨⟨Nat.le_of_ble_eq_true rfl, Nat.le_of_ble_eq_true rfl⟩, Nat.le_of_ble_eq_true rfl, Nat.le_of_ble_eq_true rfl⟩ ?_
  refine c_X12_say ?_
  refine g_dg3 hI ?_
  refine g_dg4 hI ?_
  rw [show th_d4 A (th_d3 A (31 * th_d1 A 409 (S 2) + (nI (S 6)).toInt64) (S 11)) (S 26) = th_dh S A from rfl]
  refine pm_aload_n dX12_digest_147 rfl rfl ?_
  refine pm_callV (M2 := m_X12_layFewest) (As := []) ok_X12_layFewest (ci := 12) rfl kw_1232 kw_1234 kw_33 dX12_digest_148 rfl rfl rfl (Nat.le_of_ble_eq_true rfl) ⟨⟨Nat.le_of_ble_eq_true rfl, Nat.le_of_ble_eq_true rfl⟩, Nat.le_of_ble_eq_true rfl, Nat.le_of_ble_eq_true rfl⟩ ?_
  refine c_X12_layFewest hI (fun t p hp => ?_)
  refine pm_aload_n dX12_digest_151 rfl rfl ?_
  refine pm_aload_n dX12_digest_152 rfl rfl ?_
  refine pm_get fl_RX12_204_12 dX12_digest_153 rfl rfl ?_
  refine pm_i2l dX12_digest_156 ?_
  refine pm_callV (M2 := m_X12_say) (As := [_]) ok_X12_say (ci := 12) rfl kw_1368 kw_1370 kw_44 dX12_digest_157 rfl rfl rfl (Nat.le_of_ble_eq_true rfl) ⟨⟨Nat.le_of_ble_eq_true rfl, Nat.le_of_ble_eq_true rfl⟩, Nat.le_of_ble_eq_true rfl, Nat.le_of_ble_eq_true rfl⟩ ?_
  refine c_X12_say (s := upd (upd s 30 (nI p.1)) 31 (nI p.2)) (B := va_up B 17 t) ?_
  refine pm_aload_n dX12_digest_160 rfl rfl ?_
  refine pm_aload_n dX12_digest_161 rfl rfl ?_
  refine pm_get fl_RX12_207_12 dX12_digest_162 rfl rfl ?_
  show pm_W _ _ _ _ _ _ (.int (nI p.2) :: _) _ _ _ _
  refine pm_i2l dX12_digest_165 ?_
  refine pm_callV (M2 := m_X12_say) (As := [_]) ok_X12_say (ci := 12) rfl kw_1368 kw_1370 kw_44 dX12_digest_166 rfl rfl rfl (Nat.le_of_ble_eq_true rfl) ⟨⟨Nat.le_of_ble_eq_true rfl, Nat.le_of_ble_eq_true rfl⟩, Nat.le_of_ble_eq_true rfl, Nat.le_of_ble_eq_true rfl⟩ ?_
  refine c_X12_say ?_
  generalize upd (upd s 30 (nI p.1)) 31 (nI p.2) = s2
  generalize va_up B 17 t = B2
  refine g_dg6 hI ?_
  refine g_dg7 hI ?_
  refine g_dg8 hI ?_
  refine g_dg9 hI ?_
  refine pm_aload_n dX12_digest_295 rfl rfl ?_
  refine pm_get fl_RX12_296_12 dX12_digest_296 rfl rfl ?_
  refine pm_lret dX12_digest_299 rfl rfl rfl ?_
  refine th_rl ?_ (hQ _ _ _)
  rw [th_digA, hp, th_di, show th_e1 (-1) (some p) = nI p.1 from rfl, show th_e2 (-1) (some p) = nI p.2 from rfl]

set_option maxHeartbeats 600000 in
set_option maxRecDepth 100000 in
theorem c_X11_mixSchools {l : Launch} {G : pm_G} {ad : Nat → Nat → Nat} {S : Nat → Nat} {A : Nat → Nat → Int32} {X : Nat → Int32} {Y : Nat → Nat → Int32} {F : Nat → Int64} {Hd Cs : Nat → Option Nat} {m : List pm_A} {Q : pm_T} {h : Int64} (hI : th_I S A) (hQ : Q ad (some (.long (th_d1 A h (S 2)))) (th_cw ad S A X Y F Hd Cs m)) : pm_C l G m_X11_mixSchools [.ref (ad 0 0), .long h] ad (th_cw ad S A X Y F Hd Cs m) Q := by
  have h8 := hI.2.2.2.2.1.1
  have h10 := hI.2.2.2.2.2.1.1
  have h3 := hI.2.1.1
  have h34 := hI.2.2.2.2.2.2.1.1
  have h20 := hI.1.1
  refine pm_met (by decide) (Nat.le_of_ble_eq_true rfl) ?_
  refine pm_lload_n dX11_mixSchools_0 rfl rfl ?_
  refine pm_lstore_n (lv2 := [(3, _), (0, _), (1, _)]) dX11_mixSchools_1 rfl (Nat.le_of_ble_eq_true rfl) rfl ?_
  refine pm_iconst (v := 0) dX11_mixSchools_2 (by decide) ?_
  refine pm_istore (lv2 := [(5, _), (3, _), (0, _), (1, _)]) dX11_mixSchools_3 (Nat.le_of_ble_eq_true rfl) rfl ?_
  suffices H : ∀ i, i ≤ S 2 → pm_W l G m_X11_mixSchools ad 5 [(5, .int (nI i)), (3, .long (th_d1 A h i)), (0, .ref (ad 0 0)), (1, .long h)] [] (th_cw ad S A X Y F Hd Cs m) 0 0 Q from H 0 (Nat.zero_le _)
  refine th_loop _ ?_
  intro i hi kk
  refine pm_iload dX11_mixSchools_5 rfl ?_
  refine pm_aload_n dX11_mixSchools_7 rfl rfl ?_
  refine pm_get fl_RX11_18_11 dX11_mixSchools_8 rfl rfl ?_
  refine pm_alen (by decide) dX11_mixSchools_11 rfl ?_
  show pm_W _ _ _ _ _ _ (.int (nI 3) :: _) _ _ _ _
  refine pm_icmp_ge (tgt := 68) dX11_mixSchools_12 (by decide) (fun c_12 => ?_) (fun c_12 => ?_)
  · refine pm_lload_n dX11_mixSchools_68 rfl rfl ?_
    refine pm_lret dX11_mixSchools_69 rfl rfl rfl ?_
    have he : i = S 2 := by
      rw [nI_leI (by decide) (by omega)] at c_12
      omega
    subst he
    exact hQ
  · refine pm_aload_n dX11_mixSchools_15 rfl rfl ?_
    refine pm_get fl_RX11_18_11 dX11_mixSchools_16 rfl rfl ?_
    refine pm_iload dX11_mixSchools_19 rfl ?_
    have hi8 : i < 3 := by
      rw [nI_leI (by decide) (by omega)] at c_12
      omega
    refine pm_aaldS dX11_mixSchools_21 rfl (th_in hi8 (by decide)) ?_
    rw [th_cl (by omega)]
    unfold th_rs
    by_cases hlt : i < S 2
    · rw [if_pos hlt]
      show pm_W _ _ _ _ _ _ (.ref (ad 1 i) :: _) _ _ _ _
      refine pm_ifnull dX11_mixSchools_22 ?_
      refine pm_lload_n dX11_mixSchools_25 rfl rfl ?_
      refine pm_aload_n dX11_mixSchools_26 rfl rfl ?_
      refine pm_get fl_RX11_18_11 dX11_mixSchools_27 rfl rfl ?_
      refine pm_iload dX11_mixSchools_30 rfl ?_
      refine pm_aaldS dX11_mixSchools_32 rfl (th_in hi8 (by decide)) ?_
      rw [th_cl (by omega)]
      unfold th_rs
      rw [if_pos hlt]
      show pm_W _ _ _ _ _ _ (.ref (ad 1 i) :: _) _ _ _ _
      refine pm_iconst (v := 3) dX11_mixSchools_33 (by decide) ?_
      refine pm_iconst (v := 4) dX11_mixSchools_34 (by decide) ?_
      refine pm_callV (M2 := m_X10_countAfter) (As := [_, _]) ok_X10_countAfter (ci := 10) rfl kw_364 kw_365 kw_366 dX11_mixSchools_35 (show pm_get? _ 1 i = some (.inr (10, th_sf A i)) from th_sc_get hlt) rfl rfl (Nat.le_of_ble_eq_true rfl) ⟨⟨Nat.le_of_ble_eq_true rfl, Nat.le_of_ble_eq_true rfl⟩, Nat.le_of_ble_eq_true rfl, Nat.le_of_ble_eq_true rfl⟩ ?_
      refine c_X10_ca hI.2.1 hlt (th_sc_get hlt) ?_
      refine pm_i2l dX11_mixSchools_38 ?_
      refine pm_callS (M2 := m_X11_mixed) (As := [_, _]) ok_X11_mixed kw_924 kw_925 dX11_mixSchools_39 rfl rfl (Nat.le_of_ble_eq_true rfl) ⟨⟨Nat.le_of_ble_eq_true rfl, Nat.le_of_ble_eq_true rfl⟩, Nat.le_of_ble_eq_true rfl, Nat.le_of_ble_eq_true rfl⟩ ?_
      refine c_X11_mixed ?_
      refine pm_lstore_n (lv2 := [(3, _), (5, _), (0, _), (1, _)]) dX11_mixSchools_42 rfl (Nat.le_of_ble_eq_true rfl) rfl ?_
      refine pm_lload_n dX11_mixSchools_43 rfl rfl ?_
      refine pm_aload_n dX11_mixSchools_44 rfl rfl ?_
      refine pm_get fl_RX11_18_11 dX11_mixSchools_45 rfl rfl ?_
      refine pm_iload dX11_mixSchools_48 rfl ?_
      refine pm_aaldS dX11_mixSchools_50 rfl (th_in hi8 (by decide)) ?_
      rw [th_cl (by omega)]
      unfold th_rs
      rw [if_pos hlt]
      show pm_W _ _ _ _ _ _ (.ref (ad 1 i) :: _) _ _ _ _
      refine pm_bipush (v := 7) dX11_mixSchools_51 (by decide) ?_
      refine pm_iconst (v := 2) dX11_mixSchools_53 (by decide) ?_
      refine pm_callV (M2 := m_X10_countAfter) (As := [_, _]) ok_X10_countAfter (ci := 10) rfl kw_364 kw_365 kw_366 dX11_mixSchools_54 (show pm_get? _ 1 i = some (.inr (10, th_sf A i)) from th_sc_get hlt) rfl rfl (Nat.le_of_ble_eq_true rfl) ⟨⟨Nat.le_of_ble_eq_true rfl, Nat.le_of_ble_eq_true rfl⟩, Nat.le_of_ble_eq_true rfl, Nat.le_of_ble_eq_true rfl⟩ ?_
      refine c_X10_ca hI.2.1 hlt (th_sc_get hlt) ?_
      refine pm_i2l dX11_mixSchools_57 ?_
      refine pm_callS (M2 := m_X11_mixed) (As := [_, _]) ok_X11_mixed kw_924 kw_925 dX11_mixSchools_58 rfl rfl (Nat.le_of_ble_eq_true rfl) ⟨⟨Nat.le_of_ble_eq_true rfl, Nat.le_of_ble_eq_true rfl⟩, Nat.le_of_ble_eq_true rfl, Nat.le_of_ble_eq_true rfl⟩ ?_
      refine c_X11_mixed ?_
      refine pm_lstore_n (lv2 := [(3, _), (5, _), (0, _), (1, _)]) dX11_mixSchools_61 rfl (Nat.le_of_ble_eq_true rfl) rfl ?_
      refine pm_iinc (lv2 := [(5, _), (3, _), (0, _), (1, _)]) dX11_mixSchools_62 rfl (nI_1 i) (Nat.le_of_ble_eq_true rfl) rfl ?_
      refine pm_goto (tgt := 5) dX11_mixSchools_65 (by decide) ?_
      refine pm_pick [0, 1, 2, 3] rfl ?_
      exact kk hlt
    · rw [if_neg hlt]
      show pm_W _ _ _ _ _ _ (.null :: _) _ _ _ _
      refine pm_ifnullN (tgt := 68) dX11_mixSchools_22 (by decide) ?_
      refine pm_lload_n dX11_mixSchools_68 rfl rfl ?_
      refine pm_lret dX11_mixSchools_69 rfl rfl rfl ?_
      have he : i = S 2 := by omega
      subst he
      exact hQ

set_option maxHeartbeats 600000 in
set_option maxRecDepth 100000 in
theorem g_mxa {l : Launch} {G : pm_G} {ad : Nat → Nat → Nat} {S : Nat → Nat} {A : Nat → Nat → Int32} {X : Nat → Int32} {Y : Nat → Nat → Int32} {F : Nat → Int64} {Hd Cs : Nat → Option Nat} {m : List pm_A} {Q : pm_T} {g h : Int64} {i ki sc : Nat} (hI : th_I S A) (hlt : i < S 11) (hki : ki ≤ 4) (eki : A 6 i = nI ki) (hsc : sc < S 2) (esc : A 7 i = nI sc) (hwi : th_g2 ad S A Y i = some (.inr (pm_kc ki, th_nf ad A Y i))) (k : pm_W l G m_X11_mixNuts ad 59 [(5, .int (nI i)), (3, .long (th_da A g i 8)), (0, .ref (ad 0 0)), (1, .long h)] [] (th_cw ad S A X Y F Hd Cs m) 0 0 Q) : pm_W l G m_X11_mixNuts ad 25 [(5, .int (nI i)), (3, .long g), (0, .ref (ad 0 0)), (1, .long h)] [] (th_cw ad S A X Y F Hd Cs m) 0 0 Q := by
  have h8 := hI.2.2.2.2.1.1
  have h10 := hI.2.2.2.2.2.1.1
  have h3 := hI.2.1.1
  have h34 := hI.2.2.2.2.2.2.1.1
  have h20 := hI.1.1
  refine pm_iconst (v := 0) dX11_mixNuts_25 (by decide) ?_
  refine pm_istore (lv2 := [(6, _), (5, _), (3, _), (0, _), (1, _)]) dX11_mixNuts_26 (Nat.le_of_ble_eq_true rfl) rfl ?_
  suffices H : ∀ w, w ≤ 8 → pm_W l G m_X11_mixNuts ad 28 [(6, .int (nI w)), (5, .int (nI i)), (3, .long (th_da A g i w)), (0, .ref (ad 0 0)), (1, .long h)] [] (th_cw ad S A X Y F Hd Cs m) 0 0 Q from H 0 (Nat.zero_le _)
  refine th_loop _ ?_
  intro w hw kk
  refine pm_iload dX11_mixNuts_28 rfl ?_
  refine pm_bipush (v := 7) dX11_mixNuts_30 (by decide) ?_
  refine pm_icmp_gt (tgt := 59) dX11_mixNuts_32 (by decide) (fun c_32 => ?_) (fun c_32 => ?_)
  · refine pm_pick [1, 2, 3, 4] rfl ?_
    have he : w = 8 := by
      rw [show (7 : Int32) = nI 7 from rfl, nI_ltI (by decide) (by omega)] at c_32
      omega
    subst he
    exact k
  · have hw8 : w < 8 := by
      rw [show (7 : Int32) = nI 7 from rfl, nI_ltI (by decide) (by omega)] at c_32
      omega
    refine pm_lload_n dX11_mixNuts_35 rfl rfl ?_
    refine pm_aload_n dX11_mixNuts_36 rfl rfl ?_
    refine pm_get fl_RX11_24_11 dX11_mixNuts_37 rfl rfl ?_
    refine pm_iload dX11_mixNuts_40 rfl ?_
    refine pm_aaldN dX11_mixNuts_42 rfl (th_in (by omega) (by decide)) ?_
    rw [th_cl (by omega)]
    unfold th_rs
    rw [if_pos hlt]
    show pm_W _ _ _ _ _ _ (.ref (ad 2 i) :: _) _ _ _ _
    refine pm_iload dX11_mixNuts_43 rfl ?_
    refine cn_RX11_123 (M := m_X11_mixNuts) (As := [_]) dX11_mixNuts_45 (show pm_get? _ 2 i = _ from hwi) rfl (Nat.le_of_ble_eq_true rfl) ⟨⟨Nat.le_of_ble_eq_true rfl, Nat.le_of_ble_eq_true rfl⟩, Nat.le_of_ble_eq_true rfl, Nat.le_of_ble_eq_true rfl⟩ ?_
    refine c_X4_tell hki eki esc (by omega) (Int32.not_lt.mp (nI_pos (by omega))) ((nI_leI (b := 7) (by omega) (by decide)).mpr (by omega)) (show pm_get? _ 2 i = _ from hwi) (show pm_get? _ 1 sc = some (.inr (10, th_sf A sc)) from th_sc_get hsc) ?_
    refine pm_i2l dX11_mixNuts_48 ?_
    refine pm_callS (M2 := m_X11_mixed) (As := [_, _]) ok_X11_mixed kw_924 kw_925 dX11_mixNuts_49 rfl rfl (Nat.le_of_ble_eq_true rfl) ⟨⟨Nat.le_of_ble_eq_true rfl, Nat.le_of_ble_eq_true rfl⟩, Nat.le_of_ble_eq_true rfl, Nat.le_of_ble_eq_true rfl⟩ ?_
    refine c_X11_mixed ?_
    refine pm_lstore_n (lv2 := [(3, _), (6, _), (5, _), (0, _), (1, _)]) dX11_mixNuts_52 rfl (Nat.le_of_ble_eq_true rfl) rfl ?_
    refine pm_iinc (lv2 := [(6, _), (3, _), (5, _), (0, _), (1, _)]) dX11_mixNuts_53 rfl (nI_1 w) (Nat.le_of_ble_eq_true rfl) rfl ?_
    refine pm_goto (tgt := 28) dX11_mixNuts_56 (by decide) ?_
    refine pm_pick [0, 2, 1, 3, 4] rfl ?_
    exact kk hw8

set_option maxHeartbeats 600000 in
set_option maxRecDepth 100000 in
theorem c_X11_mixNuts {l : Launch} {G : pm_G} {ad : Nat → Nat → Nat} {S : Nat → Nat} {A : Nat → Nat → Int32} {X : Nat → Int32} {Y : Nat → Nat → Int32} {F : Nat → Int64} {Hd Cs : Nat → Option Nat} {m : List pm_A} {Q : pm_T} {h : Int64} (hI : th_I S A) (hQ : Q ad (some (.long (th_d3 A h (S 11)))) (th_cw ad S A X Y F Hd Cs m)) : pm_C l G m_X11_mixNuts [.ref (ad 0 0), .long h] ad (th_cw ad S A X Y F Hd Cs m) Q := by
  have h8 := hI.2.2.2.2.1.1
  have h10 := hI.2.2.2.2.2.1.1
  have h3 := hI.2.1.1
  have h34 := hI.2.2.2.2.2.2.1.1
  have h20 := hI.1.1
  refine pm_met (by decide) (Nat.le_of_ble_eq_true rfl) ?_
  refine pm_lload_n dX11_mixNuts_0 rfl rfl ?_
  refine pm_lstore_n (lv2 := [(3, _), (0, _), (1, _)]) dX11_mixNuts_1 rfl (Nat.le_of_ble_eq_true rfl) rfl ?_
  refine pm_iconst (v := 0) dX11_mixNuts_2 (by decide) ?_
  refine pm_istore (lv2 := [(5, _), (3, _), (0, _), (1, _)]) dX11_mixNuts_3 (Nat.le_of_ble_eq_true rfl) rfl ?_
  suffices H : ∀ i, i ≤ S 11 → pm_W l G m_X11_mixNuts ad 5 [(5, .int (nI i)), (3, .long (th_d3 A h i)), (0, .ref (ad 0 0)), (1, .long h)] [] (th_cw ad S A X Y F Hd Cs m) 0 0 Q from H 0 (Nat.zero_le _)
  refine th_loop _ ?_
  intro i hi kk
  refine pm_iload dX11_mixNuts_5 rfl ?_
  refine pm_aload_n dX11_mixNuts_7 rfl rfl ?_
  refine pm_get fl_RX11_24_11 dX11_mixNuts_8 rfl rfl ?_
  refine pm_alen (by decide) dX11_mixNuts_11 rfl ?_
  show pm_W _ _ _ _ _ _ (.int (nI 8) :: _) _ _ _ _
  refine pm_icmp_ge (tgt := 81) dX11_mixNuts_12 (by decide) (fun c_12 => ?_) (fun c_12 => ?_)
  · refine pm_lload_n dX11_mixNuts_81 rfl rfl ?_
    refine pm_lret dX11_mixNuts_82 rfl rfl rfl ?_
    have he : i = S 11 := by
      rw [nI_leI (by decide) (by omega)] at c_12
      omega
    subst he
    exact hQ
  · refine pm_aload_n dX11_mixNuts_15 rfl rfl ?_
    refine pm_get fl_RX11_24_11 dX11_mixNuts_16 rfl rfl ?_
    refine pm_iload dX11_mixNuts_19 rfl ?_
    have hi8 : i < 8 := by
      rw [nI_leI (by decide) (by omega)] at c_12
      omega
    refine pm_aaldN dX11_mixNuts_21 rfl (th_in hi8 (by decide)) ?_
    rw [th_cl (by omega)]
    unfold th_rs
    by_cases hlt : i < S 11
    · rw [if_pos hlt]
      show pm_W _ _ _ _ _ _ (.ref (ad 2 i) :: _) _ _ _ _
      refine pm_ifnull dX11_mixNuts_22 ?_
      obtain ⟨⟨ki, hki, eki⟩, ⟨sc, hsc, esc⟩, -⟩ := th_nk hI hlt
      have hwi : th_g2 ad S A Y i = some (.inr (pm_kc (th_n (A 6 i)), th_nf ad A Y i)) := th_nt_get hlt
      rw [eki, th_n_nI (by omega)] at hwi
      refine g_mxa hI hlt hki eki hsc esc hwi ?_
      refine pm_lload_n dX11_mixNuts_59 rfl rfl ?_
      refine pm_aload_n dX11_mixNuts_60 rfl rfl ?_
      refine pm_get fl_RX11_24_11 dX11_mixNuts_61 rfl rfl ?_
      refine pm_iload dX11_mixNuts_64 rfl ?_
      refine pm_aaldN dX11_mixNuts_66 rfl (th_in hi8 (by decide)) ?_
      rw [th_cl (by omega)]
      unfold th_rs
      rw [if_pos hlt]
      show pm_W _ _ _ _ _ _ (.ref (ad 2 i) :: _) _ _ _ _
      refine pm_get (fn_RX11_159 _) dX11_mixNuts_67 (show pm_get? _ 2 i = _ from hwi) rfl ?_
      refine pm_i2l dX11_mixNuts_70 ?_
      refine pm_callS (M2 := m_X11_mixed) (As := [_, _]) ok_X11_mixed kw_924 kw_925 dX11_mixNuts_71 rfl rfl (Nat.le_of_ble_eq_true rfl) ⟨⟨Nat.le_of_ble_eq_true rfl, Nat.le_of_ble_eq_true rfl⟩, Nat.le_of_ble_eq_true rfl, Nat.le_of_ble_eq_true rfl⟩ ?_
      refine c_X11_mixed ?_
      refine pm_lstore_n (lv2 := [(3, _), (5, _), (0, _), (1, _)]) dX11_mixNuts_74 rfl (Nat.le_of_ble_eq_true rfl) rfl ?_
      refine pm_iinc (lv2 := [(5, _), (3, _), (0, _), (1, _)]) dX11_mixNuts_75 rfl (nI_1 i) (Nat.le_of_ble_eq_true rfl) rfl ?_
      refine pm_goto (tgt := 5) dX11_mixNuts_78 (by decide) ?_
      refine pm_pick [0, 1, 2, 3] rfl ?_
      exact kk hlt
    · rw [if_neg hlt]
      show pm_W _ _ _ _ _ _ (.null :: _) _ _ _ _
      refine pm_ifnullN (tgt := 81) dX11_mixNuts_22 (by decide) ?_
      refine pm_lload_n dX11_mixNuts_81 rfl rfl ?_
      refine pm_lret dX11_mixNuts_82 rfl rfl rfl ?_
      have he : i = S 11 := by omega
      subst he
      exact hQ

set_option maxHeartbeats 600000 in
set_option maxRecDepth 100000 in
theorem c_X11_mixSeasons {l : Launch} {G : pm_G} {ad : Nat → Nat → Nat} {S : Nat → Nat} {A : Nat → Nat → Int32} {X : Nat → Int32} {Y : Nat → Nat → Int32} {F : Nat → Int64} {Hd Cs : Nat → Option Nat} {m : List pm_A} {Q : pm_T} {h : Int64} (hI : th_I S A) (hJ : th_J ad S A Y Cs) (hQ : Q ad (some (.long (th_d7 S A h (S 11)))) (th_cw ad S A X Y F Hd Cs m)) : pm_C l G m_X11_mixSeasons [.ref (ad 0 0), .long h] ad (th_cw ad S A X Y F Hd Cs m) Q := by
  have h8 := hI.2.2.2.2.1.1
  have h10 := hI.2.2.2.2.2.1.1
  have h3 := hI.2.1.1
  have h34 := hI.2.2.2.2.2.2.1.1
  have h20 := hI.1.1
  refine pm_met (by decide) (Nat.le_of_ble_eq_true rfl) ?_
  refine pm_lload_n dX11_mixSeasons_0 rfl rfl ?_
  refine pm_lstore_n (lv2 := [(3, _), (0, _), (1, _)]) dX11_mixSeasons_1 rfl (Nat.le_of_ble_eq_true rfl) rfl ?_
  refine pm_iconst (v := 0) dX11_mixSeasons_2 (by decide) ?_
  refine pm_istore (lv2 := [(5, _), (3, _), (0, _), (1, _)]) dX11_mixSeasons_3 (Nat.le_of_ble_eq_true rfl) rfl ?_
  suffices H : ∀ i, i ≤ S 11 → pm_W l G m_X11_mixSeasons ad 5 [(5, .int (nI i)), (3, .long (th_d7 S A h i)), (0, .ref (ad 0 0)), (1, .long h)] [] (th_cw ad S A X Y F Hd Cs m) 0 0 Q from H 0 (Nat.zero_le _)
  refine th_loop _ ?_
  intro i hi kk
  refine pm_iload dX11_mixSeasons_5 rfl ?_
  refine pm_aload_n dX11_mixSeasons_7 rfl rfl ?_
  refine pm_get fl_RX11_24_11 dX11_mixSeasons_8 rfl rfl ?_
  refine pm_alen (by decide) dX11_mixSeasons_11 rfl ?_
  show pm_W _ _ _ _ _ _ (.int (nI 8) :: _) _ _ _ _
  refine pm_icmp_ge (tgt := 55) dX11_mixSeasons_12 (by decide) (fun c_12 => ?_) (fun c_12 => ?_)
  · refine pm_lload_n dX11_mixSeasons_55 rfl rfl ?_
    refine pm_lret dX11_mixSeasons_56 rfl rfl rfl ?_
    have he : i = S 11 := by
      rw [nI_leI (by decide) (by omega)] at c_12
      omega
    subst he
    exact hQ
  · refine pm_aload_n dX11_mixSeasons_15 rfl rfl ?_
    refine pm_get fl_RX11_24_11 dX11_mixSeasons_16 rfl rfl ?_
    refine pm_iload dX11_mixSeasons_19 rfl ?_
    have hi8 : i < 8 := by
      rw [nI_leI (by decide) (by omega)] at c_12
      omega
    refine pm_aaldN dX11_mixSeasons_21 rfl (th_in hi8 (by decide)) ?_
    rw [th_cl (by omega)]
    unfold th_rs
    by_cases hlt : i < S 11
    · rw [if_pos hlt]
      show pm_W _ _ _ _ _ _ (.ref (ad 2 i) :: _) _ _ _ _
      refine pm_ifnull dX11_mixSeasons_22 ?_
      obtain ⟨⟨ki, hki, eki⟩, ⟨sc, hsc, esc⟩, -⟩ := th_nk hI hlt
      have hwi : th_g2 ad S A Y i = some (.inr (pm_kc (th_n (A 6 i)), th_nf ad A Y i)) := th_nt_get hlt
      rw [eki, th_n_nI (by omega)] at hwi
      refine pm_lload_n dX11_mixSeasons_25 rfl rfl ?_
      refine pm_aload_n dX11_mixSeasons_26 rfl rfl ?_
      refine pm_get fl_RX11_52_11 dX11_mixSeasons_27 rfl rfl ?_
      refine pm_aload_n dX11_mixSeasons_30 rfl rfl ?_
      refine pm_get fl_RX11_24_11 dX11_mixSeasons_31 rfl rfl ?_
      refine pm_iload dX11_mixSeasons_34 rfl ?_
      refine pm_aaldN dX11_mixSeasons_36 rfl (th_in hi8 (by decide)) ?_
      rw [th_cl (by omega)]
      unfold th_rs
      rw [if_pos hlt]
      show pm_W _ _ _ _ _ _ (.ref (ad 2 i) :: _) _ _ _ _
      refine pm_aload_n dX11_mixSeasons_37 rfl rfl ?_
      refine pm_get fl_RX11_60_11 dX11_mixSeasons_38 rfl rfl ?_
      refine pm_callV (M2 := m_X2_bestSet) (As := [_, _]) ok_X2_bestSet (ci := 2) rfl kw_837 kw_838 kw_839 dX11_mixSeasons_41 rfl rfl rfl (Nat.le_of_ble_eq_true rfl) ⟨⟨Nat.le_of_ble_eq_true rfl, Nat.le_of_ble_eq_true rfl⟩, Nat.le_of_ble_eq_true rfl, Nat.le_of_ble_eq_true rfl⟩ ?_
      refine c_X2_bestSet hI hJ hlt hwi ?_
      refine pm_i2l dX11_mixSeasons_44 ?_
      refine pm_callS (M2 := m_X11_mixed) (As := [_, _]) ok_X11_mixed kw_924 kw_925 dX11_mixSeasons_45 rfl rfl (Nat.le_of_ble_eq_true rfl) ⟨⟨Nat.le_of_ble_eq_true rfl, Nat.le_of_ble_eq_true rfl⟩, Nat.le_of_ble_eq_true rfl, Nat.le_of_ble_eq_true rfl⟩ ?_
      refine c_X11_mixed ?_
      refine pm_lstore_n (lv2 := [(3, _), (5, _), (0, _), (1, _)]) dX11_mixSeasons_48 rfl (Nat.le_of_ble_eq_true rfl) rfl ?_
      refine pm_iinc (lv2 := [(5, _), (3, _), (0, _), (1, _)]) dX11_mixSeasons_49 rfl (nI_1 i) (Nat.le_of_ble_eq_true rfl) rfl ?_
      refine pm_goto (tgt := 5) dX11_mixSeasons_52 (by decide) ?_
      refine pm_pick [0, 1, 2, 3] rfl ?_
      exact kk hlt
    · rw [if_neg hlt]
      show pm_W _ _ _ _ _ _ (.null :: _) _ _ _ _
      refine pm_ifnullN (tgt := 55) dX11_mixSeasons_22 (by decide) ?_
      refine pm_lload_n dX11_mixSeasons_55 rfl rfl ?_
      refine pm_lret dX11_mixSeasons_56 rfl rfl rfl ?_
      have he : i = S 11 := by omega
      subst he
      exact hQ

set_option maxHeartbeats 600000 in
set_option maxRecDepth 100000 in
theorem c_X3_mixInto {l : Launch} {G : pm_G} {ad : Nat → Nat → Nat} {S : Nat → Nat} {A : Nat → Nat → Int32} {X : Nat → Int32} {Y : Nat → Nat → Int32} {F : Nat → Int64} {Hd Cs : Nat → Option Nat} {m : List pm_A} {Q : pm_T} {h : Int64} (hI : th_I S A) (hT : th_T S A Y) (hQ : Q ad (some (.long (th_d4 A h (S 26)))) (th_cw ad S A X Y F Hd Cs m)) : pm_C l G m_X3_mixInto [.ref (ad 4 0), .long h] ad (th_cw ad S A X Y F Hd Cs m) Q := by
  have h8 := hI.2.2.2.2.1.1
  have h10 := hI.2.2.2.2.2.1.1
  have h3 := hI.2.1.1
  have h34 := hI.2.2.2.2.2.2.1.1
  have h20 := hI.1.1
  refine pm_met (by decide) (Nat.le_of_ble_eq_true rfl) ?_
  refine pm_lload_n dX3_mixInto_0 rfl rfl ?_
  refine pm_lstore_n (lv2 := [(3, _), (0, _), (1, _)]) dX3_mixInto_1 rfl (Nat.le_of_ble_eq_true rfl) rfl ?_
  refine pm_iconst (v := 0) dX3_mixInto_2 (by decide) ?_
  refine pm_istore (lv2 := [(5, _), (3, _), (0, _), (1, _)]) dX3_mixInto_3 (Nat.le_of_ble_eq_true rfl) rfl ?_
  suffices H : ∀ i, i ≤ S 26 → pm_W l G m_X3_mixInto ad 5 [(5, .int (nI i)), (3, .long (th_d4 A h i)), (0, .ref (ad 4 0)), (1, .long h)] [] (th_cw ad S A X Y F Hd Cs m) 0 0 Q from H 0 (Nat.zero_le _)
  refine th_loop _ ?_
  intro i hi kk
  refine pm_iload dX3_mixInto_5 rfl ?_
  refine pm_aload_n dX3_mixInto_7 rfl rfl ?_
  refine pm_get fl_RX3_24_3 dX3_mixInto_8 rfl rfl ?_
  refine pm_icmp_ge (tgt := 44) dX3_mixInto_11 (by decide) (fun c_11 => ?_) (fun c_11 => ?_)
  · refine pm_lload_n dX3_mixInto_44 rfl rfl ?_
    refine pm_lret dX3_mixInto_45 rfl rfl rfl ?_
    have he : i = S 26 := by
      rw [nI_leI (by omega) (by omega)] at c_11
      omega
    subst he
    exact hQ
  · have hlt : i < S 26 := by
      rw [nI_leI (by omega) (by omega)] at c_11
      omega
    refine pm_lload_n dX3_mixInto_14 rfl rfl ?_
    refine pm_aload_n dX3_mixInto_15 rfl rfl ?_
    refine pm_get fl_RX3_9_3 dX3_mixInto_16 rfl rfl ?_
    refine pm_iload dX3_mixInto_19 rfl ?_
    refine pm_iald dX3_mixInto_21 rfl (th_in (by omega) (by decide)) ?_
    rw [th_cl (by omega)]
    show pm_W _ _ _ _ _ _ (.int (Y 2 i) :: _) _ _ _ _
    rw [(hT i hlt).1]
    refine pm_i2l dX3_mixInto_22 ?_
    refine pm_callSN (M2 := m_X11_mixed) (As := [_, _]) ok_X11_mixed kw_936 kw_925 dX3_mixInto_23 rfl rfl (Nat.le_of_ble_eq_true rfl) ⟨⟨Nat.le_of_ble_eq_true rfl, Nat.le_of_ble_eq_true rfl⟩, Nat.le_of_ble_eq_true rfl, Nat.le_of_ble_eq_true rfl⟩ ?_
    refine c_X11_mixed ?_
    refine pm_aload_n dX3_mixInto_26 rfl rfl ?_
    refine pm_get fl_RX3_15_3 dX3_mixInto_27 rfl rfl ?_
    refine pm_iload dX3_mixInto_30 rfl ?_
    refine pm_iald dX3_mixInto_32 rfl (th_in (by omega) (by decide)) ?_
    rw [th_cl (by omega)]
    show pm_W _ _ _ _ _ _ (.int (Y 3 i) :: _) _ _ _ _
    rw [(hT i hlt).2]
    refine pm_i2l dX3_mixInto_33 ?_
    refine pm_callSN (M2 := m_X11_mixed) (As := [_, _]) ok_X11_mixed kw_936 kw_925 dX3_mixInto_34 rfl rfl (Nat.le_of_ble_eq_true rfl) ⟨⟨Nat.le_of_ble_eq_true rfl, Nat.le_of_ble_eq_true rfl⟩, Nat.le_of_ble_eq_true rfl, Nat.le_of_ble_eq_true rfl⟩ ?_
    refine c_X11_mixed ?_
    refine pm_lstore_n (lv2 := [(3, _), (5, _), (0, _), (1, _)]) dX3_mixInto_37 rfl (Nat.le_of_ble_eq_true rfl) rfl ?_
    refine pm_iinc (lv2 := [(5, _), (3, _), (0, _), (1, _)]) dX3_mixInto_38 rfl (nI_1 i) (Nat.le_of_ble_eq_true rfl) rfl ?_
    refine pm_goto (tgt := 5) dX3_mixInto_41 (by decide) ?_
    refine pm_pick [0, 1, 2, 3] rfl ?_
    exact kk hlt

set_option maxHeartbeats 600000 in
set_option maxRecDepth 100000 in
theorem c_X2_mixInto {l : Launch} {G : pm_G} {ad : Nat → Nat → Nat} {S : Nat → Nat} {A : Nat → Nat → Int32} {X : Nat → Int32} {Y : Nat → Nat → Int32} {F : Nat → Int64} {Hd Cs : Nat → Option Nat} {m : List pm_A} {Q : pm_T} {h : Int64} (hI : th_I S A) (hJ : th_J ad S A Y Cs) (hQ : Q ad (some (.long (th_d6 A h (S 34)))) (th_cw ad S A X Y F Hd Cs m)) : pm_C l G m_X2_mixInto [.ref (ad 6 0), .long h] ad (th_cw ad S A X Y F Hd Cs m) Q := by
  have h8 := hI.2.2.2.2.1.1
  have h10 := hI.2.2.2.2.2.1.1
  have h3 := hI.2.1.1
  have h34 := hI.2.2.2.2.2.2.1.1
  have h20 := hI.1.1
  refine pm_met (by decide) (Nat.le_of_ble_eq_true rfl) ?_
  refine pm_lload_n dX2_mixInto_0 rfl rfl ?_
  refine pm_lstore_n (lv2 := [(3, _), (0, _), (1, _)]) dX2_mixInto_1 rfl (Nat.le_of_ble_eq_true rfl) rfl ?_
  refine pm_iconst (v := 0) dX2_mixInto_2 (by decide) ?_
  refine pm_istore (lv2 := [(5, _), (3, _), (0, _), (1, _)]) dX2_mixInto_3 (Nat.le_of_ble_eq_true rfl) rfl ?_
  suffices H : ∀ i, i ≤ S 34 → pm_W l G m_X2_mixInto ad 5 [(5, .int (nI i)), (3, .long (th_d6 A h i)), (0, .ref (ad 6 0)), (1, .long h)] [] (th_cw ad S A X Y F Hd Cs m) 0 0 Q from H 0 (Nat.zero_le _)
  refine th_loop _ ?_
  intro i hi kk
  refine pm_iload dX2_mixInto_5 rfl ?_
  refine pm_aload_n dX2_mixInto_7 rfl rfl ?_
  refine pm_get fl_RX2_24_2 dX2_mixInto_8 rfl rfl ?_
  refine pm_icmp_ge (tgt := 68) dX2_mixInto_11 (by decide) (fun c_11 => ?_) (fun c_11 => ?_)
  · refine pm_lload_n dX2_mixInto_68 rfl rfl ?_
    refine pm_lret dX2_mixInto_69 rfl rfl rfl ?_
    have he : i = S 34 := by
      rw [nI_leI (by omega) (by omega)] at c_11
      omega
    subst he
    exact hQ
  · have hlt : i < S 34 := by
      rw [nI_leI (by omega) (by omega)] at c_11
      omega
    obtain ⟨sc, hsc, e1, ecs⟩ := hJ.2.2 i hlt
    refine pm_aload_n dX2_mixInto_14 rfl rfl ?_
    refine pm_get fl_RX2_11_2 dX2_mixInto_15 rfl rfl ?_
    refine pm_iload dX2_mixInto_18 rfl ?_
    refine pm_aaldS dX2_mixInto_20 rfl (th_in (by omega) (by decide)) ?_
    rw [th_cl (by omega), ecs]
    show pm_W _ _ _ _ _ _ (.ref (ad 1 sc) :: _) _ _ _ _
    refine pm_ifnull dX2_mixInto_21 ?_
    refine pm_lload_n dX2_mixInto_24 rfl rfl ?_
    refine pm_aload_n dX2_mixInto_25 rfl rfl ?_
    refine pm_get fl_RX2_11_2 dX2_mixInto_26 rfl rfl ?_
    refine pm_iload dX2_mixInto_29 rfl ?_
    refine pm_aaldS dX2_mixInto_31 rfl (th_in (by omega) (by decide)) ?_
    rw [th_cl (by omega), ecs]
    show pm_W _ _ _ _ _ _ (.ref (ad 1 sc) :: _) _ _ _ _
    refine pm_get fl_RX2_65_10 dX2_mixInto_32 (show pm_get? _ 1 sc = some (.inr (10, th_sf A sc)) from th_sc_get hsc) rfl ?_
    rw [← e1]
    refine pm_i2l dX2_mixInto_35 ?_
    refine pm_callSN (M2 := m_X11_mixed) (As := [_, _]) ok_X11_mixed kw_941 kw_925 dX2_mixInto_36 rfl rfl (Nat.le_of_ble_eq_true rfl) ⟨⟨Nat.le_of_ble_eq_true rfl, Nat.le_of_ble_eq_true rfl⟩, Nat.le_of_ble_eq_true rfl, Nat.le_of_ble_eq_true rfl⟩ ?_
    refine c_X11_mixed ?_
    refine pm_aload_n dX2_mixInto_39 rfl rfl ?_
    refine pm_get fl_RX2_17_2 dX2_mixInto_40 rfl rfl ?_
    refine pm_iload dX2_mixInto_43 rfl ?_
    refine pm_iald dX2_mixInto_45 rfl (th_in (by omega) (by decide)) ?_
    rw [th_cl (by omega)]
    refine pm_i2l dX2_mixInto_46 ?_
    refine pm_callSN (M2 := m_X11_mixed) (As := [_, _]) ok_X11_mixed kw_941 kw_925 dX2_mixInto_47 rfl rfl (Nat.le_of_ble_eq_true rfl) ⟨⟨Nat.le_of_ble_eq_true rfl, Nat.le_of_ble_eq_true rfl⟩, Nat.le_of_ble_eq_true rfl, Nat.le_of_ble_eq_true rfl⟩ ?_
    refine c_X11_mixed ?_
    refine pm_aload_n dX2_mixInto_50 rfl rfl ?_
    refine pm_get fl_RX2_21_2 dX2_mixInto_51 rfl rfl ?_
    refine pm_iload dX2_mixInto_54 rfl ?_
    refine pm_iald dX2_mixInto_56 rfl (th_in (by omega) (by decide)) ?_
    rw [th_cl (by omega)]
    refine pm_i2l dX2_mixInto_57 ?_
    refine pm_callSN (M2 := m_X11_mixed) (As := [_, _]) ok_X11_mixed kw_941 kw_925 dX2_mixInto_58 rfl rfl (Nat.le_of_ble_eq_true rfl) ⟨⟨Nat.le_of_ble_eq_true rfl, Nat.le_of_ble_eq_true rfl⟩, Nat.le_of_ble_eq_true rfl, Nat.le_of_ble_eq_true rfl⟩ ?_
    refine c_X11_mixed ?_
    refine pm_lstore_n (lv2 := [(3, _), (5, _), (0, _), (1, _)]) dX2_mixInto_61 rfl (Nat.le_of_ble_eq_true rfl) rfl ?_
    refine pm_iinc (lv2 := [(5, _), (3, _), (0, _), (1, _)]) dX2_mixInto_62 rfl (nI_1 i) (Nat.le_of_ble_eq_true rfl) rfl ?_
    refine pm_goto (tgt := 5) dX2_mixInto_65 (by decide) ?_
    refine pm_pick [0, 1, 2, 3] rfl ?_
    exact kk hlt

set_option maxHeartbeats 600000 in
set_option maxRecDepth 100000 in
theorem c_X6_mixInto {l : Launch} {G : pm_G} {ad : Nat → Nat → Nat} {S : Nat → Nat} {A : Nat → Nat → Int32} {X : Nat → Int32} {Y : Nat → Nat → Int32} {F : Nat → Int64} {Hd Cs : Nat → Option Nat} {m : List pm_A} {Q : pm_T} {h : Int64} (hI : th_I S A) (hQ : Q ad (some (.long (th_d8 A h (S 1)))) (th_cw ad S A X Y F Hd Cs m)) : pm_C l G m_X6_mixInto [.ref (ad 3 0), .long h] ad (th_cw ad S A X Y F Hd Cs m) Q := by
  have h8 := hI.2.2.2.2.1.1
  have h10 := hI.2.2.2.2.2.1.1
  have h3 := hI.2.1.1
  have h34 := hI.2.2.2.2.2.2.1.1
  have h20 := hI.1.1
  refine pm_met (by decide) (Nat.le_of_ble_eq_true rfl) ?_
  refine pm_lload_n dX6_mixInto_0 rfl rfl ?_
  refine pm_lstore_n (lv2 := [(3, _), (0, _), (1, _)]) dX6_mixInto_1 rfl (Nat.le_of_ble_eq_true rfl) rfl ?_
  refine pm_iconst (v := 0) dX6_mixInto_2 (by decide) ?_
  refine pm_istore (lv2 := [(5, _), (3, _), (0, _), (1, _)]) dX6_mixInto_3 (Nat.le_of_ble_eq_true rfl) rfl ?_
  suffices H : ∀ i, i ≤ S 1 → pm_W l G m_X6_mixInto ad 5 [(5, .int (nI i)), (3, .long (th_d8 A h i)), (0, .ref (ad 3 0)), (1, .long h)] [] (th_cw ad S A X Y F Hd Cs m) 0 0 Q from H 0 (Nat.zero_le _)
  refine th_loop _ ?_
  intro i hi kk
  refine pm_iload dX6_mixInto_5 rfl ?_
  refine pm_aload_n dX6_mixInto_7 rfl rfl ?_
  refine pm_get fl_RX6_26_6 dX6_mixInto_8 rfl rfl ?_
  refine pm_icmp_ge (tgt := 43) dX6_mixInto_11 (by decide) (fun c_11 => ?_) (fun c_11 => ?_)
  · refine pm_lload_n dX6_mixInto_43 rfl rfl ?_
    refine pm_lret dX6_mixInto_44 rfl rfl rfl ?_
    have he : i = S 1 := by
      rw [nI_leI (by omega) (by omega)] at c_11
      omega
    subst he
    exact hQ
  · have hlt : i < S 1 := by
      rw [nI_leI (by omega) (by omega)] at c_11
      omega
    refine pm_iload dX6_mixInto_14 rfl ?_
    refine pm_aload_n dX6_mixInto_16 rfl rfl ?_
    refine pm_get fl_RX6_9_6 dX6_mixInto_17 rfl rfl ?_
    refine pm_alen (by decide) dX6_mixInto_20 rfl ?_
    show pm_W _ _ _ _ _ _ (.int (nI 20) :: _) _ _ _ _
    refine pm_icmp_ge (tgt := 43) dX6_mixInto_21 (by decide) (fun c_21 => absurd c_21 (by rw [nI_leI (by decide) (by omega)]; omega)) (fun c_21 => ?_)
    refine pm_lload_n dX6_mixInto_24 rfl rfl ?_
    refine pm_aload_n dX6_mixInto_25 rfl rfl ?_
    refine pm_get fl_RX6_9_6 dX6_mixInto_26 rfl rfl ?_
    refine pm_iload dX6_mixInto_29 rfl ?_
    refine pm_iald dX6_mixInto_31 rfl (th_in (by omega) (by decide)) ?_
    rw [th_cl (by omega)]
    refine pm_i2l dX6_mixInto_32 ?_
    refine pm_callSN (M2 := m_X11_mixed) (As := [_, _]) ok_X11_mixed kw_950 kw_925 dX6_mixInto_33 rfl rfl (Nat.le_of_ble_eq_true rfl) ⟨⟨Nat.le_of_ble_eq_true rfl, Nat.le_of_ble_eq_true rfl⟩, Nat.le_of_ble_eq_true rfl, Nat.le_of_ble_eq_true rfl⟩ ?_
    refine c_X11_mixed ?_
    refine pm_lstore_n (lv2 := [(3, _), (5, _), (0, _), (1, _)]) dX6_mixInto_36 rfl (Nat.le_of_ble_eq_true rfl) rfl ?_
    refine pm_iinc (lv2 := [(5, _), (3, _), (0, _), (1, _)]) dX6_mixInto_37 rfl (nI_1 i) (Nat.le_of_ble_eq_true rfl) rfl ?_
    refine pm_goto (tgt := 5) dX6_mixInto_40 (by decide) ?_
    refine pm_pick [0, 1, 2, 3] rfl ?_
    exact kk hlt

set_option maxHeartbeats 600000 in
set_option maxRecDepth 100000 in
theorem g_dgc {l : Launch} {G : pm_G} {ad : Nat → Nat → Nat} {S : Nat → Nat} {A : Nat → Nat → Int32} {X : Nat → Int32} {Y : Nat → Nat → Int32} {F : Nat → Int64} {Hd Cs : Nat → Option Nat} {m : List pm_A} {Q : pm_T} {g : Int64} (hI : th_I S A) (hQ : Q ad (some (.long (th_d9 S A g 7))) (th_cw ad S A X Y F Hd Cs m)) : pm_W l G m_X11_digest ad 96 [(1, .long g), (0, .ref (ad 0 0))] [] (th_cw ad S A X Y F Hd Cs m) 0 0 Q := by
  refine pm_iconst (v := 0) dX11_digest_96 (by decide) ?_
  refine pm_istore_n (lv2 := [(3, _), (1, _), (0, _)]) dX11_digest_97 rfl (Nat.le_of_ble_eq_true rfl) rfl ?_
  suffices H : ∀ w, w ≤ 7 → pm_W l G m_X11_digest ad 98 [(3, .int (nI w)), (1, .long (th_d9 S A g w)), (0, .ref (ad 0 0))] [] (th_cw ad S A X Y F Hd Cs m) 0 0 Q from H 0 (Nat.zero_le _)
  refine th_loop _ ?_
  intro w hw kk
  refine pm_iload_n dX11_digest_98 rfl rfl ?_
  refine pm_bipush (v := 6) dX11_digest_99 (by decide) ?_
  refine pm_icmp_gt (tgt := 121) dX11_digest_101 (by decide) (fun c_101 => ?_) (fun c_101 => ?_)
  · refine pm_lload_n dX11_digest_121 rfl rfl ?_
    refine pm_lret dX11_digest_122 rfl rfl rfl ?_
    have he : w = 7 := by
      rw [show (6 : Int32) = nI 6 from rfl, nI_ltI (by decide) (by omega)] at c_101
      omega
    subst he
    exact hQ
  · have hlt : w < 7 := by
      rw [show (6 : Int32) = nI 6 from rfl, nI_ltI (by decide) (by omega)] at c_101
      omega
    refine pm_lload_n dX11_digest_104 rfl rfl ?_
    refine pm_aload_n dX11_digest_105 rfl rfl ?_
    refine pm_iload_n dX11_digest_106 rfl rfl ?_
    refine pm_callV (M2 := m_X11_count) (As := [_]) ok_X11_count (ci := 11) rfl kw_951 kw_904 kw_905 dX11_digest_107 rfl rfl rfl (Nat.le_of_ble_eq_true rfl) ⟨⟨Nat.le_of_ble_eq_true rfl, Nat.le_of_ble_eq_true rfl⟩, Nat.le_of_ble_eq_true rfl, Nat.le_of_ble_eq_true rfl⟩ ?_
    refine c_X11_count hI ?_
    refine pm_i2l dX11_digest_110 ?_
    refine pm_callS (M2 := m_X11_mixed) (As := [_, _]) ok_X11_mixed kw_924 kw_925 dX11_digest_111 rfl rfl (Nat.le_of_ble_eq_true rfl) ⟨⟨Nat.le_of_ble_eq_true rfl, Nat.le_of_ble_eq_true rfl⟩, Nat.le_of_ble_eq_true rfl, Nat.le_of_ble_eq_true rfl⟩ ?_
    refine c_X11_mixed ?_
    refine pm_lstore_n (lv2 := [(1, _), (3, _), (0, _)]) dX11_digest_114 rfl (Nat.le_of_ble_eq_true rfl) rfl ?_
    refine pm_iinc (lv2 := [(3, _), (1, _), (0, _)]) dX11_digest_115 rfl (nI_1 w) (Nat.le_of_ble_eq_true rfl) rfl ?_
    refine pm_goto (tgt := 98) dX11_digest_118 (by decide) ?_
    refine pm_pick [0, 1, 2] rfl ?_
    exact kk hlt

set_option maxHeartbeats 600000 in
set_option maxRecDepth 100000 in
theorem c_X11_digest {l : Launch} {G : pm_G} {ad : Nat → Nat → Nat} {S : Nat → Nat} {A : Nat → Nat → Int32} {X : Nat → Int32} {Y : Nat → Nat → Int32} {F : Nat → Int64} {Hd Cs : Nat → Option Nat} {m : List pm_A} {Q : pm_T} (hI : th_I S A) (hJ : th_J ad S A Y Cs) (hQ : ∀ X2 t, Q ad (some (.long (th_digA S A))) (th_cw ad S A X2 (va_up Y 4 t) F Hd Cs m)) : pm_C l G m_X11_digest [.ref (ad 0 0)] ad (th_cw ad S A X Y F Hd Cs m) Q := by
  refine pm_met (by decide) (Nat.le_of_ble_eq_true rfl) ?_
  refine pm_aload_n dX11_digest_0 rfl rfl ?_
  refine pm_ldc2 kw_919 dX11_digest_1 ?_
  refine pm_callV (M2 := m_X11_mixSchools) (As := [_]) ok_X11_mixSchools (ci := 11) rfl kw_920 kw_922 kw_17 dX11_digest_4 rfl rfl rfl (Nat.le_of_ble_eq_true rfl) ⟨⟨Nat.le_of_ble_eq_true rfl, Nat.le_of_ble_eq_true rfl⟩, Nat.le_of_ble_eq_true rfl, Nat.le_of_ble_eq_true rfl⟩ ?_
  refine c_X11_mixSchools hI ?_
  refine pm_lstore_n (lv2 := [(1, _), (0, _)]) dX11_digest_7 rfl (Nat.le_of_ble_eq_true rfl) rfl ?_
  refine pm_lload_n dX11_digest_8 rfl rfl ?_
  refine pm_aload_n dX11_digest_9 rfl rfl ?_
  refine pm_get fl_RX11_60_11 dX11_digest_10 rfl rfl ?_
  refine pm_i2l dX11_digest_13 ?_
  refine pm_callS (M2 := m_X11_mixed) (As := [_, _]) ok_X11_mixed kw_924 kw_925 dX11_digest_14 rfl rfl (Nat.le_of_ble_eq_true rfl) ⟨⟨Nat.le_of_ble_eq_true rfl, Nat.le_of_ble_eq_true rfl⟩, Nat.le_of_ble_eq_true rfl, Nat.le_of_ble_eq_true rfl⟩ ?_
  refine c_X11_mixed ?_
  refine pm_lstore_n (lv2 := [(1, _), (0, _)]) dX11_digest_17 rfl (Nat.le_of_ble_eq_true rfl) rfl ?_
  refine pm_aload_n dX11_digest_18 rfl rfl ?_
  refine pm_lload_n dX11_digest_19 rfl rfl ?_
  refine pm_callV (M2 := m_X11_mixNuts) (As := [_]) ok_X11_mixNuts (ci := 11) rfl kw_928 kw_930 kw_18 dX11_digest_20 rfl rfl rfl (Nat.le_of_ble_eq_true rfl) ⟨⟨Nat.le_of_ble_eq_true rfl, Nat.le_of_ble_eq_true rfl⟩, Nat.le_of_ble_eq_true rfl, Nat.le_of_ble_eq_true rfl⟩ ?_
  refine c_X11_mixNuts hI ?_
  refine pm_lstore_n (lv2 := [(1, _), (0, _)]) dX11_digest_23 rfl (Nat.le_of_ble_eq_true rfl) rfl ?_
  refine pm_aload_n dX11_digest_24 rfl rfl ?_
  refine pm_get fl_RX11_38_11 dX11_digest_25 rfl rfl ?_
  refine pm_lload_n dX11_digest_28 rfl rfl ?_
  refine pm_callV (M2 := m_X3_mixInto) (As := [_]) ok_X3_mixInto (ci := 3) rfl kw_932 kw_933 kw_934 dX11_digest_29 rfl rfl rfl (Nat.le_of_ble_eq_true rfl) ⟨⟨Nat.le_of_ble_eq_true rfl, Nat.le_of_ble_eq_true rfl⟩, Nat.le_of_ble_eq_true rfl, Nat.le_of_ble_eq_true rfl⟩ ?_
  refine c_X3_mixInto hI hJ.1.1 ?_
  rw [show th_d4 A (th_d3 A (31 * th_d1 A 409 (S 2) + (nI (S 6)).toInt64) (S 11)) (S 26) = th_dh S A from rfl]
  refine pm_lstore_n (lv2 := [(1, _), (0, _)]) dX11_digest_32 rfl (Nat.le_of_ble_eq_true rfl) rfl ?_
  refine pm_aload_n dX11_digest_33 rfl rfl ?_
  refine pm_get fl_RX11_38_11 dX11_digest_34 rfl rfl ?_
  refine pm_aload_n dX11_digest_37 rfl rfl ?_
  refine pm_get fl_RX11_24_11 dX11_digest_38 rfl rfl ?_
  refine pm_aload_n dX11_digest_41 rfl rfl ?_
  refine pm_get fl_RX11_60_11 dX11_digest_42 rfl rfl ?_
  refine pm_callV (M2 := m_X3_findFewestLies) (As := [_, _]) ok_X3_findFewestLies (ci := 3) rfl kw_691 kw_692 kw_693 dX11_digest_45 rfl rfl rfl (Nat.le_of_ble_eq_true rfl) ⟨⟨Nat.le_of_ble_eq_true rfl, Nat.le_of_ble_eq_true rfl⟩, Nat.le_of_ble_eq_true rfl, Nat.le_of_ble_eq_true rfl⟩ ?_
  refine c_X3_findFewestLies hI hJ.1.1 (fun t p hp => ?_)
  refine pm_lload_n dX11_digest_48 rfl rfl ?_
  refine pm_aload_n dX11_digest_49 rfl rfl ?_
  refine pm_get fl_RX11_38_11 dX11_digest_50 rfl rfl ?_
  refine pm_get fl_RX11_178_3 dX11_digest_53 rfl rfl ?_
  refine pm_i2l dX11_digest_56 ?_
  refine pm_callS (M2 := m_X11_mixed) (As := [_, _]) ok_X11_mixed kw_924 kw_925 dX11_digest_57 rfl rfl (Nat.le_of_ble_eq_true rfl) ⟨⟨Nat.le_of_ble_eq_true rfl, Nat.le_of_ble_eq_true rfl⟩, Nat.le_of_ble_eq_true rfl, Nat.le_of_ble_eq_true rfl⟩ ?_
  refine c_X11_mixed ?_
  refine pm_aload_n dX11_digest_60 rfl rfl ?_
  refine pm_get fl_RX11_38_11 dX11_digest_61 rfl rfl ?_
  refine pm_get fl_RX11_181_3 dX11_digest_64 rfl rfl ?_
  refine pm_i2l dX11_digest_67 ?_
  refine pm_callS (M2 := m_X11_mixed) (As := [_, _]) ok_X11_mixed kw_924 kw_925 dX11_digest_68 rfl rfl (Nat.le_of_ble_eq_true rfl) ⟨⟨Nat.le_of_ble_eq_true rfl, Nat.le_of_ble_eq_true rfl⟩, Nat.le_of_ble_eq_true rfl, Nat.le_of_ble_eq_true rfl⟩ ?_
  refine c_X11_mixed ?_
  refine pm_lstore_n (lv2 := [(1, _), (0, _)]) dX11_digest_71 rfl (Nat.le_of_ble_eq_true rfl) rfl ?_
  refine pm_aload_n dX11_digest_72 rfl rfl ?_
  refine pm_get fl_RX11_52_11 dX11_digest_73 rfl rfl ?_
  refine pm_lload_n dX11_digest_76 rfl rfl ?_
  refine pm_callV (M2 := m_X2_mixInto) (As := [_]) ok_X2_mixInto (ci := 2) rfl kw_937 kw_938 kw_939 dX11_digest_77 rfl rfl rfl (Nat.le_of_ble_eq_true rfl) ⟨⟨Nat.le_of_ble_eq_true rfl, Nat.le_of_ble_eq_true rfl⟩, Nat.le_of_ble_eq_true rfl, Nat.le_of_ble_eq_true rfl⟩ ?_
  refine c_X2_mixInto (X := upd (upd X 3 (nI p.1)) 4 (nI p.2)) (Y := va_up Y 4 t) hI hJ ?_
  generalize upd (upd X 3 (nI p.1)) 4 (nI p.2) = X2
  refine pm_lstore_n (lv2 := [(1, _), (0, _)]) dX11_digest_80 rfl (Nat.le_of_ble_eq_true rfl) rfl ?_
  refine pm_aload_n dX11_digest_81 rfl rfl ?_
  refine pm_lload_n dX11_digest_82 rfl rfl ?_
  refine pm_callV (M2 := m_X11_mixSeasons) (As := [_]) ok_X11_mixSeasons (ci := 11) rfl kw_942 kw_944 kw_19 dX11_digest_83 rfl rfl rfl (Nat.le_of_ble_eq_true rfl) ⟨⟨Nat.le_of_ble_eq_true rfl, Nat.le_of_ble_eq_true rfl⟩, Nat.le_of_ble_eq_true rfl, Nat.le_of_ble_eq_true rfl⟩ ?_
  refine c_X11_mixSeasons (Y := va_up Y 4 t) hI hJ ?_
  refine pm_lstore_n (lv2 := [(1, _), (0, _)]) dX11_digest_86 rfl (Nat.le_of_ble_eq_true rfl) rfl ?_
  refine pm_aload_n dX11_digest_87 rfl rfl ?_
  refine pm_get fl_RX11_12_11 dX11_digest_88 rfl rfl ?_
  refine pm_lload_n dX11_digest_91 rfl rfl ?_
  refine pm_callV (M2 := m_X6_mixInto) (As := [_]) ok_X6_mixInto (ci := 6) rfl kw_946 kw_947 kw_948 dX11_digest_92 rfl rfl rfl (Nat.le_of_ble_eq_true rfl) ⟨⟨Nat.le_of_ble_eq_true rfl, Nat.le_of_ble_eq_true rfl⟩, Nat.le_of_ble_eq_true rfl, Nat.le_of_ble_eq_true rfl⟩ ?_
  refine c_X6_mixInto hI ?_
  refine pm_lstore_n (lv2 := [(1, _), (0, _)]) dX11_digest_95 rfl (Nat.le_of_ble_eq_true rfl) rfl ?_
  refine g_dgc hI ?_
  refine th_rl ?_ (hQ X2 t)
  rw [th_digA, hp, th_di, show th_e1 (-1) (some p) = nI p.1 from rfl, show th_e2 (-1) (some p) = nI p.2 from rfl]

