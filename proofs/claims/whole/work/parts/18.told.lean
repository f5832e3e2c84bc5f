def th_toldA (S : Nat → Nat) (x y : Int32) : Int32 := if th_pr S x y then (if S 26 = 10 then -104 else nI (S 26 + 1)) else -101
def th_toldS (S : Nat → Nat) (x y : Int32) : Nat → Nat := if th_pr S x y then (if S 26 = 10 then S else va_up S 26 (S 26 + 1)) else S
def th_toldT (S : Nat → Nat) (A : Nat → Nat → Int32) (x y : Int32) : Nat → Nat → Int32 := if th_pr S x y then (if S 26 = 10 then A else va_up (va_up A 15 (upd (A 15) (S 26) x)) 16 (upd (A 16) (S 26) y)) else A
def th_toldY (S : Nat → Nat) (Y : Nat → Nat → Int32) (x y : Int32) : Nat → Nat → Int32 := if th_pr S x y then (if S 26 = 10 then Y else va_up (va_up Y 2 (upd (Y 2) (S 26) x)) 3 (upd (Y 3) (S 26) y)) else Y
set_option maxHeartbeats 600000 in
set_option maxRecDepth 100000 in
theorem c_X12_told {l : Launch} {G : pm_G} {ad : Nat → Nat → Nat} {a0 a3 a4 a5 a6 a7 : List pm_A} {a1 a2 : Nat → Option pm_A} {S : Nat → Nat} {A : Nat → Nat → Int32} {s : Nat → Int32} {B : Nat → Nat → Int32} {hs : Int64} {Q : pm_T} {x y : Int32} (hI : th_I S A) (hQ : Q ad (some (.int (th_toldA S x y))) (a0, a1, a2, a3, a4, a5, a6, a7, th_mp ad (th_toldS S x y) (th_toldT S A x y) s B hs)) : pm_C l G m_X12_told [.ref (ad 8 0), .int x, .int y] ad (a0, a1, a2, a3, a4, a5, a6, a7, th_mp ad S A s B hs) Q := by
  have h8 := hI.2.2.2.2.1.1
  have h10 := hI.2.2.2.2.2.1.1
  refine pm_met (by decide) (Nat.le_of_ble_eq_true rfl) ?_
  refine pm_aload_n dX12_told_0 rfl rfl ?_
  refine pm_iload_n dX12_told_1 rfl rfl ?_
  refine pm_iload_n dX12_told_2 rfl rfl ?_
  refine pm_callV (M2 := m_X12_isPair) (As := [_, _]) ok_X12_isPair (ci := 12) rfl kw_1174 kw_1176 kw_27 dX12_told_3 rfl rfl rfl (Nat.le_of_ble_eq_true rfl) ⟨⟨Nat.le_of_ble_eq_true rfl, Nat.le_of_ble_eq_true rfl⟩, Nat.le_of_ble_eq_true rfl, Nat.le_of_ble_eq_true rfl⟩ ?_
  refine c_X12_isPair h8 (fun i j hi hj hne ei ej => ?_) (fun hn => ?_)
  · subst ei
    subst ej
    rw [th_toldA, th_toldS, th_toldT, if_pos (th_prt h8 hi hj hne), if_pos (th_prt h8 hi hj hne), if_pos (th_prt h8 hi hj hne)] at hQ
    refine pm_if_ne (tgt := 12) dX12_told_6 (by decide) (fun c_6 => ?_) (fun c_6 => absurd c_6 (by decide))
    refine pm_aload_n dX12_told_12 rfl rfl ?_
    refine pm_get fl_RX12_193_12 dX12_told_13 rfl rfl ?_
    refine pm_bipush (v := 10) dX12_told_16 (by decide) ?_
    refine pm_icmp_ne (tgt := 24) dX12_told_18 (by decide) (fun c_18 => ?_) (fun c_18 => ?_)
    · have hn10 : ¬ S 26 = 10 := fun e => c_18 (by rw [e]; rfl)
      rw [if_neg hn10, if_neg hn10, if_neg hn10] at hQ
      refine pm_aload_n dX12_told_24 rfl rfl ?_
      refine pm_get fl_RX12_53_12 dX12_told_25 rfl rfl ?_
      refine pm_aload_n dX12_told_28 rfl rfl ?_
      refine pm_get fl_RX12_193_12 dX12_told_29 rfl rfl ?_
      refine pm_iload_n dX12_told_32 rfl rfl ?_
      refine pm_iast (w2 := (_, _, _, _, _, _, _, _, [_, _, _, _, _, _, _, _, _, _, _, _, _, _, _, _, _, _, _, _, _, _, _, _])) dX12_told_33 rfl (th_in (by omega) (by decide)) rfl ?_
      rw [th_cl (by omega)]
      refine pm_aload_n dX12_told_34 rfl rfl ?_
      refine pm_get fl_RX12_56_12 dX12_told_35 rfl rfl ?_
      refine pm_aload_n dX12_told_38 rfl rfl ?_
      refine pm_get fl_RX12_193_12 dX12_told_39 rfl rfl ?_
      refine pm_iload_n dX12_told_42 rfl rfl ?_
      refine pm_iast (w2 := (_, _, _, _, _, _, _, _, [_, _, _, _, _, _, _, _, _, _, _, _, _, _, _, _, _, _, _, _, _, _, _, _])) dX12_told_43 rfl (th_in (by omega) (by decide)) rfl ?_
      rw [th_cl (by omega)]
      refine pm_aload_n dX12_told_44 rfl rfl ?_
      refine pm_dup dX12_told_45 rfl ?_
      refine pm_get fl_RX12_193_12 dX12_told_46 rfl rfl ?_
      refine pm_iconst (v := 1) dX12_told_49 (by decide) ?_
      refine pm_iadd dX12_told_50 ?_
      rw [nI_1]
      refine pm_put (w2 := (_, _, _, _, _, _, _, _, [.inr (_, [_, _, _, _, _, _, _, _, _, _, _, _, _, _, _, _, _, _, _, _, _, _, _, _, _, _, _, _, _, _, _, _, _, _, _, _, _, _, _, _, _, _, _, _]), _, _, _, _, _, _, _, _, _, _, _, _, _, _, _, _, _, _, _, _, _, _, _])) fl_RX12_193_12 fp_12_26 dX12_told_51 rfl rfl rfl (Nat.le_of_ble_eq_true rfl) rfl ?_
      refine pm_aload_n dX12_told_54 rfl rfl ?_
      refine pm_get fl_RX12_193_12 dX12_told_55 rfl rfl ?_
      refine pm_iret dX12_told_58 rfl rfl rfl ?_
      exact hQ
    · refine pm_bipush (v := (-104)) dX12_told_21 (by decide) ?_
      refine pm_iret dX12_told_23 rfl rfl rfl ?_
      have e : S 26 = 10 := (nI_eq (b := 10) (by omega) (by decide)).mp c_18
      rw [if_pos e, if_pos e, if_pos e] at hQ
      exact hQ
  · refine pm_if_ne (tgt := 12) dX12_told_6 (by decide) (fun c_6 => absurd (rfl) c_6) (fun c_6 => ?_)
    refine pm_bipush (v := (-101)) dX12_told_9 (by decide) ?_
    refine pm_iret dX12_told_11 rfl rfl rfl ?_
    rw [th_toldA, th_toldS, th_toldT, if_neg (th_prf h8 hn), if_neg (th_prf h8 hn), if_neg (th_prf h8 hn)] at hQ
    exact hQ

set_option maxHeartbeats 600000 in
set_option maxRecDepth 100000 in
theorem c_X3_add {l : Launch} {G : pm_G} {ad : Nat → Nat → Nat} {S : Nat → Nat} {A : Nat → Nat → Int32} {X : Nat → Int32} {Y : Nat → Nat → Int32} {F : Nat → Int64} {Hd Cs : Nat → Option Nat} {m : List pm_A} {Q : pm_T} {i j ki kj : Nat} (h10 : S 26 ≤ 10) (hwi : th_g2 ad S A Y i = some (.inr (pm_kc ki, th_nf ad A Y i))) (hwj : th_g2 ad S A Y j = some (.inr (pm_kc kj, th_nf ad A Y j))) (h1 : S 26 = 10 → Q ad (some (.int (-104))) (th_cw ad S A X Y F Hd Cs m)) (h0 : ¬ S 26 = 10 → Q ad (some (.int (nI (S 26 + 1)))) (th_cw ad (va_up S 26 (S 26 + 1)) (va_up (va_up A 15 (upd (A 15) (S 26) (nI i))) 16 (upd (A 16) (S 26) (nI j))) X (va_up (va_up Y 2 (upd (Y 2) (S 26) (nI i))) 3 (upd (Y 3) (S 26) (nI j))) F Hd Cs m)) : pm_C l G m_X3_add [.ref (ad 4 0), .ref (ad 2 i), .ref (ad 2 j)] ad (th_cw ad S A X Y F Hd Cs m) Q := by
  refine pm_met (by decide) (Nat.le_of_ble_eq_true rfl) ?_
  refine pm_aload_n dX3_add_0 rfl rfl ?_
  refine pm_get fl_RX3_24_3 dX3_add_1 rfl rfl ?_
  refine pm_aload_n dX3_add_4 rfl rfl ?_
  refine pm_get fl_RX3_9_3 dX3_add_5 rfl rfl ?_
  refine pm_alen (by decide) dX3_add_8 rfl ?_
  show pm_W _ _ _ _ _ _ (.int (nI 10) :: _) _ _ _ _
  refine pm_icmp_lt (tgt := 15) dX3_add_9 (by decide) (fun c_9 => ?_) (fun c_9 => ?_)
  · have hn10 : S 26 < 10 := (nI_ltI (by omega) (by decide)).mp c_9
    refine pm_aload_n dX3_add_15 rfl rfl ?_
    refine pm_get fl_RX3_9_3 dX3_add_16 rfl rfl ?_
    refine pm_aload_n dX3_add_19 rfl rfl ?_
    refine pm_get fl_RX3_24_3 dX3_add_20 rfl rfl ?_
    refine pm_aload_n dX3_add_23 rfl rfl ?_
    refine pm_get (fn_RX3_28 _) dX3_add_24 (show pm_get? _ 2 i = _ from hwi) rfl ?_
    refine pm_iast (w2 := (_, _, _, _, [_, _, _, _, _], _, _, _, _)) dX3_add_27 rfl (th_in hn10 (by decide)) rfl ?_
    rw [th_cl (by omega)]
    refine pm_aload_n dX3_add_28 rfl rfl ?_
    refine pm_get fl_RX3_15_3 dX3_add_29 rfl rfl ?_
    refine pm_aload_n dX3_add_32 rfl rfl ?_
    refine pm_get fl_RX3_24_3 dX3_add_33 rfl rfl ?_
    refine pm_aload_n dX3_add_36 rfl rfl ?_
    refine pm_get (fn_RX3_28 _) dX3_add_37 (show pm_get? _ 2 j = _ from hwj) rfl ?_
    refine pm_iast (w2 := (_, _, _, _, [_, _, _, _, _], _, _, _, _)) dX3_add_40 rfl (th_in hn10 (by decide)) rfl ?_
    rw [th_cl (by omega)]
    refine pm_aload_n dX3_add_41 rfl rfl ?_
    refine pm_dup dX3_add_42 rfl ?_
    refine pm_get fl_RX3_24_3 dX3_add_43 rfl rfl ?_
    refine pm_iconst (v := 1) dX3_add_46 (by decide) ?_
    refine pm_iadd dX3_add_47 ?_
    rw [nI_1]
    refine pm_put (w2 := (_, _, _, _, [.inr (_, [_, _, _, _, _, _, _, _]), _, _, _, _], _, _, _, _)) fl_RX3_24_3 fp_3_0 dX3_add_48 rfl rfl rfl (Nat.le_of_ble_eq_true rfl) rfl ?_
    refine pm_aload_n dX3_add_51 rfl rfl ?_
    refine pm_get fl_RX3_24_3 dX3_add_52 rfl rfl ?_
    refine pm_iret dX3_add_55 rfl rfl rfl ?_
    exact h0 (by omega)
  · refine pm_bipush (v := (-104)) dX3_add_12 (by decide) ?_
    refine pm_iret dX3_add_14 rfl rfl rfl ?_
    exact h1 (by
      rw [nI_ltI (by omega) (by decide)] at c_9
      omega)

set_option maxHeartbeats 600000 in
set_option maxRecDepth 100000 in
theorem c_X11_told {l : Launch} {G : pm_G} {ad : Nat → Nat → Nat} {S : Nat → Nat} {A : Nat → Nat → Int32} {X : Nat → Int32} {Y : Nat → Nat → Int32} {F : Nat → Int64} {Hd Cs : Nat → Option Nat} {m : List pm_A} {Q : pm_T} {x y : Int32} (hI : th_I S A) (hQ : Q ad (some (.int (th_toldA S x y))) (th_cw ad (th_toldS S x y) (th_toldT S A x y) X (th_toldY S Y x y) F Hd Cs m)) : pm_C l G m_X11_told [.ref (ad 0 0), .int x, .int y] ad (th_cw ad S A X Y F Hd Cs m) Q := by
  have h8 := hI.2.2.2.2.1.1
  refine pm_met (by decide) (Nat.le_of_ble_eq_true rfl) ?_
  refine pm_aload_n dX11_told_0 rfl rfl ?_
  refine pm_iload_n dX11_told_1 rfl rfl ?_
  refine pm_callV (M2 := m_X11_nutOf) (As := [_]) ok_X11_nutOf (ci := 11) rfl kw_545 kw_547 kw_5 dX11_told_2 rfl rfl rfl (Nat.le_of_ble_eq_true rfl) ⟨⟨Nat.le_of_ble_eq_true rfl, Nat.le_of_ble_eq_true rfl⟩, Nat.le_of_ble_eq_true rfl, Nat.le_of_ble_eq_true rfl⟩ ?_
  refine c_X11_nutOf h8 (fun i hi e => ?_) (fun hn => ?_)
  · subst e
    obtain ⟨⟨ki, hki, eki⟩, ⟨si, hsi, esi⟩, -⟩ := th_nk hI hi
    have hwi : pm_get? (th_cw ad S A X Y F Hd Cs m) 2 i = some (.inr (pm_kc (th_n (A 6 i)), th_nf ad A Y i)) := th_nt_get hi
    rw [eki, th_n_nI (by omega)] at hwi
    refine pm_astore_n (lv2 := [(3, _), (0, _), (1, _), (2, _)]) dX11_told_5 rfl (Nat.le_of_ble_eq_true rfl) rfl ?_
    refine pm_aload_n dX11_told_6 rfl rfl ?_
    refine pm_iload_n dX11_told_7 rfl rfl ?_
    refine pm_callV (M2 := m_X11_nutOf) (As := [_]) ok_X11_nutOf (ci := 11) rfl kw_545 kw_547 kw_5 dX11_told_8 rfl rfl rfl (Nat.le_of_ble_eq_true rfl) ⟨⟨Nat.le_of_ble_eq_true rfl, Nat.le_of_ble_eq_true rfl⟩, Nat.le_of_ble_eq_true rfl, Nat.le_of_ble_eq_true rfl⟩ ?_
    refine c_X11_nutOf h8 (fun j hj e => ?_) (fun hn2 => ?_)
    · subst e
      obtain ⟨⟨kj, hkj, ekj⟩, ⟨sj, hsj, esj⟩, -⟩ := th_nk hI hj
      have hwj : pm_get? (th_cw ad S A X Y F Hd Cs m) 2 j = some (.inr (pm_kc (th_n (A 6 j)), th_nf ad A Y j)) := th_nt_get hj
      rw [ekj, th_n_nI (by omega)] at hwj
      refine pm_astore (lv2 := [(4, _), (3, _), (0, _), (1, _), (2, _)]) dX11_told_11 (Nat.le_of_ble_eq_true rfl) rfl ?_
      refine pm_aload_n dX11_told_13 rfl rfl ?_
      refine pm_ifnull dX11_told_14 ?_
      refine pm_aload dX11_told_17 rfl ?_
      refine pm_ifnull dX11_told_19 ?_
      refine pm_aload_n dX11_told_22 rfl rfl ?_
      refine pm_aload dX11_told_23 rfl ?_
      refine pm_inj hwi hwj (fun hadd => ?_)
      refine pm_acmp_ne (tgt := 31) dX11_told_25 (by decide) (fun c_25 => ?_) (fun c_25 => ?_)
      · have hne : i ≠ j := fun e => c_25 (by rw [e])
        rw [th_toldA, th_toldS, th_toldT, th_toldY, if_pos (th_prt h8 hi hj hne), if_pos (th_prt h8 hi hj hne), if_pos (th_prt h8 hi hj hne), if_pos (th_prt h8 hi hj hne)] at hQ
        refine pm_aload_n dX11_told_31 rfl rfl ?_
        refine pm_get fl_RX11_38_11 dX11_told_32 rfl rfl ?_
        refine pm_aload_n dX11_told_35 rfl rfl ?_
        refine pm_aload dX11_told_36 rfl ?_
        refine pm_callV (M2 := m_X3_add) (As := [_, _]) ok_X3_add (ci := 3) rfl kw_658 kw_659 kw_660 dX11_told_38 rfl rfl rfl (Nat.le_of_ble_eq_true rfl) ⟨⟨Nat.le_of_ble_eq_true rfl, Nat.le_of_ble_eq_true rfl⟩, Nat.le_of_ble_eq_true rfl, Nat.le_of_ble_eq_true rfl⟩ ?_
        refine c_X3_add (X := X) hI.2.2.2.2.2.1.1 hwi hwj (fun h10 => ?_) (fun h10 => ?_)
        · rw [if_pos h10, if_pos h10, if_pos h10, if_pos h10] at hQ
          refine pm_iret dX11_told_41 rfl rfl rfl ?_
          exact hQ
        · rw [if_neg h10, if_neg h10, if_neg h10, if_neg h10] at hQ
          refine pm_iret dX11_told_41 rfl rfl rfl ?_
          exact hQ
      · refine pm_bipush (v := (-101)) dX11_told_28 (by decide) ?_
        refine pm_iret dX11_told_30 rfl rfl rfl ?_
        rw [th_toldA, th_toldS, th_toldT, th_toldY, if_neg (fun z => z.2 (by rw [hadd.mp c_25])), if_neg (fun z => z.2 (by rw [hadd.mp c_25])), if_neg (fun z => z.2 (by rw [hadd.mp c_25])), if_neg (fun z => z.2 (by rw [hadd.mp c_25]))] at hQ
        exact hQ
    · refine pm_nstore (lv2 := [(4, _), (3, _), (0, _), (1, _), (2, _)]) dX11_told_11 (Nat.le_of_ble_eq_true rfl) rfl ?_
      refine pm_aload_n dX11_told_13 rfl rfl ?_
      refine pm_ifnull dX11_told_14 ?_
      refine pm_nload dX11_told_17 rfl ?_
      refine pm_ifnullN (tgt := 28) dX11_told_19 (by decide) ?_
      refine pm_bipush (v := (-101)) dX11_told_28 (by decide) ?_
      refine pm_iret dX11_told_30 rfl rfl rfl ?_
      rw [th_toldA, th_toldS, th_toldT, th_toldY, if_neg (fun z => th_okf hn2 (by omega) z.1.2), if_neg (fun z => th_okf hn2 (by omega) z.1.2), if_neg (fun z => th_okf hn2 (by omega) z.1.2), if_neg (fun z => th_okf hn2 (by omega) z.1.2)] at hQ
      exact hQ
  · refine pm_nstore_n (lv2 := [(3, _), (0, _), (1, _), (2, _)]) dX11_told_5 rfl (Nat.le_of_ble_eq_true rfl) rfl ?_
    refine pm_aload_n dX11_told_6 rfl rfl ?_
    refine pm_iload_n dX11_told_7 rfl rfl ?_
    refine pm_callV (M2 := m_X11_nutOf) (As := [_]) ok_X11_nutOf (ci := 11) rfl kw_545 kw_547 kw_5 dX11_told_8 rfl rfl rfl (Nat.le_of_ble_eq_true rfl) ⟨⟨Nat.le_of_ble_eq_true rfl, Nat.le_of_ble_eq_true rfl⟩, Nat.le_of_ble_eq_true rfl, Nat.le_of_ble_eq_true rfl⟩ ?_
    refine c_X11_nutOf h8 (fun j hj e => ?_) (fun hn2 => ?_)
    · subst e
      obtain ⟨⟨kj, hkj, ekj⟩, ⟨sj, hsj, esj⟩, -⟩ := th_nk hI hj
      have hwj : pm_get? (th_cw ad S A X Y F Hd Cs m) 2 j = some (.inr (pm_kc (th_n (A 6 j)), th_nf ad A Y j)) := th_nt_get hj
      rw [ekj, th_n_nI (by omega)] at hwj
      refine pm_astore (lv2 := [(4, _), (3, _), (0, _), (1, _), (2, _)]) dX11_told_11 (Nat.le_of_ble_eq_true rfl) rfl ?_
      refine pm_nload_n dX11_told_13 rfl rfl ?_
      refine pm_ifnullN (tgt := 28) dX11_told_14 (by decide) ?_
      refine pm_bipush (v := (-101)) dX11_told_28 (by decide) ?_
      refine pm_iret dX11_told_30 rfl rfl rfl ?_
      rw [th_toldA, th_toldS, th_toldT, th_toldY, if_neg (fun z => th_okf hn (by omega) z.1.1), if_neg (fun z => th_okf hn (by omega) z.1.1), if_neg (fun z => th_okf hn (by omega) z.1.1), if_neg (fun z => th_okf hn (by omega) z.1.1)] at hQ
      exact hQ
    · refine pm_nstore (lv2 := [(4, _), (3, _), (0, _), (1, _), (2, _)]) dX11_told_11 (Nat.le_of_ble_eq_true rfl) rfl ?_
      refine pm_nload_n dX11_told_13 rfl rfl ?_
      refine pm_ifnullN (tgt := 28) dX11_told_14 (by decide) ?_
      refine pm_bipush (v := (-101)) dX11_told_28 (by decide) ?_
      refine pm_iret dX11_told_30 rfl rfl rfl ?_
      rw [th_toldA, th_toldS, th_toldT, th_toldY, if_neg (fun z => th_okf hn (by omega) z.1.1), if_neg (fun z => th_okf hn (by omega) z.1.1), if_neg (fun z => th_okf hn (by omega) z.1.1), if_neg (fun z => th_okf hn (by omega) z.1.1)] at hQ
      exact hQ

def th_claimA (S : Nat → Nat) (A : Nat → Nat → Int32) (x z : Int32) : Int32 := if th_ok x (S 11) then (if -1 ≤ z ∧ z ≤ 999 then A 14 (th_n x) else -102) else -101
def th_claimT (S : Nat → Nat) (A : Nat → Nat → Int32) (x z : Int32) : Nat → Nat → Int32 := if th_ok x (S 11) then (if -1 ≤ z ∧ z ≤ 999 then va_up A 14 (upd (A 14) (th_n x) z) else A) else A
set_option maxHeartbeats 600000 in
set_option maxRecDepth 100000 in
theorem c_X12_claim {l : Launch} {G : pm_G} {ad : Nat → Nat → Nat} {a0 a3 a4 a5 a6 a7 : List pm_A} {a1 a2 : Nat → Option pm_A} {S : Nat → Nat} {A : Nat → Nat → Int32} {s : Nat → Int32} {B : Nat → Nat → Int32} {hs : Int64} {Q : pm_T} {x z : Int32} (hI : th_I S A) (hQ : Q ad (some (.int (th_claimA S A x z))) (a0, a1, a2, a3, a4, a5, a6, a7, th_mp ad S (th_claimT S A x z) s B hs)) : pm_C l G m_X12_claim [.ref (ad 8 0), .int x, .int z] ad (a0, a1, a2, a3, a4, a5, a6, a7, th_mp ad S A s B hs) Q := by
  have h8 := hI.2.2.2.2.1.1
  refine pm_met (by decide) (Nat.le_of_ble_eq_true rfl) ?_
  refine pm_aload_n dX12_claim_0 rfl rfl ?_
  refine pm_iload_n dX12_claim_1 rfl rfl ?_
  refine pm_callV (M2 := m_X12_isNut) (As := [_]) ok_X12_isNut (ci := 12) rfl kw_1154 kw_1156 kw_24 dX12_claim_2 rfl rfl rfl (Nat.le_of_ble_eq_true rfl) ⟨⟨Nat.le_of_ble_eq_true rfl, Nat.le_of_ble_eq_true rfl⟩, Nat.le_of_ble_eq_true rfl, Nat.le_of_ble_eq_true rfl⟩ ?_
  refine c_X12_isNut h8 (fun i hi e => ?_) (fun hn => ?_)
  · subst e
    rw [th_claimA, th_claimT, if_pos (th_okt hi (by omega)), if_pos (th_okt hi (by omega)), th_n_nI (by omega)] at hQ
    refine pm_if_ne (tgt := 11) dX12_claim_5 (by decide) (fun c_5 => ?_) (fun c_5 => absurd c_5 (by decide))
    refine pm_iload_n dX12_claim_11 rfl rfl ?_
    refine pm_i2l dX12_claim_12 ?_
    refine pm_ldc2 kw_1219 dX12_claim_13 ?_
    refine pm_ldc2 kw_1130 dX12_claim_16 ?_
    refine pm_callS (M2 := m_X12_in) (As := [_, _, _]) ok_X12_in kw_1115 kw_1116 dX12_claim_19 rfl rfl (Nat.le_of_ble_eq_true rfl) ⟨⟨Nat.le_of_ble_eq_true rfl, Nat.le_of_ble_eq_true rfl⟩, Nat.le_of_ble_eq_true rfl, Nat.le_of_ble_eq_true rfl⟩ ?_
    refine c_X12_in32 (lo := -1) (hi := 999) rfl rfl (fun u v => ?_) (fun u => ?_)
    · rw [if_pos ⟨u, v⟩, if_pos ⟨u, v⟩] at hQ
      refine pm_if_ne (tgt := 28) dX12_claim_22 (by decide) (fun c_22 => ?_) (fun c_22 => absurd c_22 (by decide))
      refine pm_aload_n dX12_claim_28 rfl rfl ?_
      refine pm_get fl_RX12_50_12 dX12_claim_29 rfl rfl ?_
      refine pm_iload_n dX12_claim_32 rfl rfl ?_
      refine pm_iald dX12_claim_33 rfl (th_in (by omega) (by decide)) ?_
      rw [th_cl (by omega)]
      refine pm_istore_n (lv2 := [(3, _), (0, _), (1, _), (2, _)]) dX12_claim_34 rfl (Nat.le_of_ble_eq_true rfl) rfl ?_
      refine pm_aload_n dX12_claim_35 rfl rfl ?_
      refine pm_get fl_RX12_50_12 dX12_claim_36 rfl rfl ?_
      refine pm_iload_n dX12_claim_39 rfl rfl ?_
      refine pm_iload_n dX12_claim_40 rfl rfl ?_
      refine pm_iast (w2 := (_, _, _, _, _, _, _, _, [_, _, _, _, _, _, _, _, _, _, _, _, _, _, _, _, _, _, _, _, _, _, _, _])) dX12_claim_41 rfl (th_in (by omega) (by decide)) rfl ?_
      rw [th_cl (by omega)]
      refine pm_iload_n dX12_claim_42 rfl rfl ?_
      refine pm_iret dX12_claim_43 rfl rfl rfl ?_
      exact hQ
    · rw [if_neg u, if_neg u] at hQ
      refine pm_if_ne (tgt := 28) dX12_claim_22 (by decide) (fun c_22 => absurd (rfl) c_22) (fun c_22 => ?_)
      refine pm_bipush (v := (-102)) dX12_claim_25 (by decide) ?_
      refine pm_iret dX12_claim_27 rfl rfl rfl ?_
      exact hQ
  · refine pm_if_ne (tgt := 11) dX12_claim_5 (by decide) (fun c_5 => absurd (rfl) c_5) (fun c_5 => ?_)
    refine pm_bipush (v := (-101)) dX12_claim_8 (by decide) ?_
    refine pm_iret dX12_claim_10 rfl rfl rfl ?_
    rw [th_claimA, th_claimT, if_neg (th_okf hn (by omega)), if_neg (th_okf hn (by omega))] at hQ
    exact hQ

set_option maxHeartbeats 600000 in
set_option maxRecDepth 100000 in
theorem c_X11_claim {l : Launch} {G : pm_G} {ad : Nat → Nat → Nat} {S : Nat → Nat} {A : Nat → Nat → Int32} {X : Nat → Int32} {Y : Nat → Nat → Int32} {F : Nat → Int64} {Hd Cs : Nat → Option Nat} {m : List pm_A} {Q : pm_T} {x z : Int32} (hI : th_I S A) (hQ : Q ad (some (.int (th_claimA S A x z))) (th_cw ad S (th_claimT S A x z) X Y F Hd Cs m)) : pm_C l G m_X11_claim [.ref (ad 0 0), .int x, .int z] ad (th_cw ad S A X Y F Hd Cs m) Q := by
  have h8 := hI.2.2.2.2.1.1
  refine pm_met (by decide) (Nat.le_of_ble_eq_true rfl) ?_
  refine pm_aload_n dX11_claim_0 rfl rfl ?_
  refine pm_iload_n dX11_claim_1 rfl rfl ?_
  refine pm_callV (M2 := m_X11_nutOf) (As := [_]) ok_X11_nutOf (ci := 11) rfl kw_545 kw_547 kw_5 dX11_claim_2 rfl rfl rfl (Nat.le_of_ble_eq_true rfl) ⟨⟨Nat.le_of_ble_eq_true rfl, Nat.le_of_ble_eq_true rfl⟩, Nat.le_of_ble_eq_true rfl, Nat.le_of_ble_eq_true rfl⟩ ?_
  refine c_X11_nutOf h8 (fun i hi e => ?_) (fun hn => ?_)
  · subst e
    obtain ⟨⟨ki, hki, eki⟩, ⟨si, hsi, esi⟩, -⟩ := th_nk hI hi
    have hwi : pm_get? (th_cw ad S A X Y F Hd Cs m) 2 i = some (.inr (pm_kc (th_n (A 6 i)), th_nf ad A Y i)) := th_nt_get hi
    rw [eki, th_n_nI (by omega)] at hwi
    rw [th_claimA, th_claimT, if_pos (th_okt hi (by omega)), if_pos (th_okt hi (by omega)), th_n_nI (by omega)] at hQ
    refine pm_astore_n (lv2 := [(3, _), (0, _), (1, _), (2, _)]) dX11_claim_5 rfl (Nat.le_of_ble_eq_true rfl) rfl ?_
    refine pm_aload_n dX11_claim_6 rfl rfl ?_
    refine pm_ifnonnull (tgt := 13) dX11_claim_7 (by decide) ?_
    refine pm_iload_n dX11_claim_13 rfl rfl ?_
    refine pm_iconst (v := (-1)) dX11_claim_14 (by decide) ?_
    refine pm_sipush (v := 999) dX11_claim_15 (by decide) ?_
    refine pm_callS (M2 := m_X11_isOutside) (As := [_, _, _]) ok_X11_isOutside kw_361 kw_362 dX11_claim_18 rfl rfl (Nat.le_of_ble_eq_true rfl) ⟨⟨Nat.le_of_ble_eq_true rfl, Nat.le_of_ble_eq_true rfl⟩, Nat.le_of_ble_eq_true rfl, Nat.le_of_ble_eq_true rfl⟩ ?_
    refine c_X11_isOutside (fun u => ?_) (fun u v => ?_)
    · rw [if_neg u, if_neg u] at hQ
      refine pm_if_eq (tgt := 27) dX11_claim_21 (by decide) (fun c_21 => absurd c_21 (by decide)) (fun c_21 => ?_)
      refine pm_bipush (v := (-102)) dX11_claim_24 (by decide) ?_
      refine pm_iret dX11_claim_26 rfl rfl rfl ?_
      exact hQ
    · rw [if_pos ⟨u, v⟩, if_pos ⟨u, v⟩] at hQ
      refine pm_if_eq (tgt := 27) dX11_claim_21 (by decide) (fun c_21 => ?_) (fun c_21 => absurd (rfl) c_21)
      refine pm_aload_n dX11_claim_27 rfl rfl ?_
      refine pm_get (fn_RX11_159 _) dX11_claim_28 hwi rfl ?_
      refine pm_istore (lv2 := [(4, _), (3, _), (0, _), (1, _), (2, _)]) dX11_claim_31 (Nat.le_of_ble_eq_true rfl) rfl ?_
      refine pm_aload_n dX11_claim_33 rfl rfl ?_
      refine pm_iload_n dX11_claim_34 rfl rfl ?_
      refine pm_put (w2 := (_, _, _, _, _, _, _, _, _)) (fn_RX11_159 _) (fpn_8 _) dX11_claim_35 hwi rfl rfl (Nat.le_of_ble_eq_true rfl) rfl ?_
      refine pm_iload dX11_claim_38 rfl ?_
      refine pm_iret dX11_claim_40 rfl rfl rfl ?_
      refine th_q2 ?_ hQ
      exact th_g2_set (kd := ki) hi (by show th_n (A 6 i) = ki; rw [eki]; exact th_n_nI (by omega)) (by simp [th_nf, va_up, upd]) (fun q hq => ⟨rfl, by simp [th_nf, va_up, upd, hq]⟩)
  · refine pm_nstore_n (lv2 := [(3, _), (0, _), (1, _), (2, _)]) dX11_claim_5 rfl (Nat.le_of_ble_eq_true rfl) rfl ?_
    refine pm_nload_n dX11_claim_6 rfl rfl ?_
    refine pm_ifnonnullN dX11_claim_7 ?_
    refine pm_bipush (v := (-101)) dX11_claim_10 (by decide) ?_
    refine pm_iret dX11_claim_12 rfl rfl rfl ?_
    rw [th_claimA, th_claimT, if_neg (th_okf hn (by omega)), if_neg (th_okf hn (by omega))] at hQ
    exact hQ

def th_lb (A : Nat → Nat → Int32) (how n : Nat) : Nat → Bool × Nat × (Nat → Int32)
  | 0 => (true, 0, A 9)
  | f + 1 => if n / 2 ^ f % 2 = 1 then ((th_lb A how n f).1 && (decide ((th_lb A how n f).2.1 / 2 ^ th_n (A 15 f) % 2 = 0) && decide ((th_lb A how n f).2.1 / 2 ^ th_n (A 16 f) % 2 = 0)), (th_lb A how n f).2.1 ||| 2 ^ th_n (A 16 f), upd (th_lb A how n f).2.2 (th_n (A 15 f)) (th_meet A how (th_n (A 7 (th_n (A 15 f)))) (th_n (A 7 (th_n (A 16 f)))) ((th_lb A how n f).2.2 (th_n (A 15 f))) ((th_lb A how n f).2.2 (th_n (A 16 f))))) else th_lb A how n f
def th_b01 : Bool → Int32
  | true => 1
  | false => 0
theorem th_or (a b : Nat) : nI a ||| nI b = nI (a ||| b) := Int32.toBitVec_inj.mp (by simp [nI, BitVec.ofNat_or])
theorem th_sh1 : ∀ b, b < 11 → (1 : Int32) <<< (nI b &&& 31) = nI (2 ^ b) := by decide +kernel
theorem th_or256 {a b : Nat} (ha : a < 256) (hb : b < 8) : a ||| 2 ^ b < 256 := Nat.or_lt_two_pow (n := 8) ha (Nat.pow_lt_pow_right (by decide) hb)
theorem th_lb0 {A : Nat → Nat → Int32} {how n f : Nat} (h : ¬ n / 2 ^ f % 2 = 1) : th_lb A how n (f + 1) = th_lb A how n f := by rw [th_lb, if_neg h]
theorem th_lb1 {A : Nat → Nat → Int32} {how n f br a b sa sb : Nat} {ok : Bool} {tt : Nat → Int32} (h : n / 2 ^ f % 2 = 1) (hp : th_lb A how n f = (ok, br, tt)) (ea : A 15 f = nI a) (eb : A 16 f = nI b) (ha : a < 8) (hb : b < 8) (esa : A 7 a = nI sa) (esb : A 7 b = nI sb) (hsa : sa < 3) (hsb : sb < 3) : th_lb A how n (f + 1) = (ok && (decide (br / 2 ^ a % 2 = 0) && decide (br / 2 ^ b % 2 = 0)), br ||| 2 ^ b, upd tt a (th_meet A how sa sb (tt a) (tt b))) := by
  rw [th_lb, if_pos h, hp, ea, eb, th_n_nI (by omega), th_n_nI (by omega), esa, esb, th_n_nI (by omega), th_n_nI (by omega)]
theorem th_lb_f {A : Nat → Nat → Int32} {how n f : Nat} (h : (th_lb A how n f).1 = false) : ∀ d, (th_lb A how n (f + d)).1 = false := by
  intro d
  induction d with
  | zero => exact h
  | succ d ih =>
    rw [← Nat.add_assoc, th_lb]
    by_cases hb : n / 2 ^ (f + d) % 2 = 1
    · rw [if_pos hb]
      show ((th_lb A how n (f + d)).1 && _) = false
      rw [ih]
      rfl
    · rw [if_neg hb]
      exact ih
set_option maxHeartbeats 600000 in
set_option maxRecDepth 100000 in
theorem b_X12_layBy_true {l : Launch} {G : pm_G} {ad : Nat → Nat → Nat} {a0 a3 a4 a5 a6 a7 : List pm_A} {a1 a2 : Nat → Option pm_A} {S : Nat → Nat} {A : Nat → Nat → Int32} {s : Nat → Int32} {B : Nat → Nat → Int32} {hs : Int64} {Q : pm_T} {n f br : Nat} {tt t : Nat → Int32} (hI : th_I S A) (hn : n < 1024) (hlt : f < S 26) (hp : th_lb A (S 6) n f = (true, br, tt)) (hbr : br < 256) (ht : ∀ q, q < S 11 → t q = tt q) (k : f < S 26 → ∀ ok br tt t, th_lb A (S 6) n (f + 1) = (ok, br, tt) → br < 256 → (∀ q, q < S 11 → t q = tt q) → pm_W l G m_X12_layBy ad 39 [(4, .int (nI (f + 1))), (3, .int (th_b01 ok)), (2, .int (nI br)), (0, .ref (ad 8 0)), (1, .int (nI n))] [] (a0, a1, a2, a3, a4, a5, a6, a7, th_mp ad S A s (va_up B 17 t) hs) 0 0 Q) : pm_W l G m_X12_layBy ad 39 [(4, .int (nI f)), (3, .int (th_b01 true)), (2, .int (nI br)), (0, .ref (ad 8 0)), (1, .int (nI n))] [] (a0, a1, a2, a3, a4, a5, a6, a7, th_mp ad S A s (va_up B 17 t) hs) 0 0 Q := by
  have h8 := hI.2.2.2.2.1.1
  have h3 := hI.2.1.1
  have h10 := hI.2.2.2.2.2.1.1
  refine pm_iload dX12_layBy_39 rfl ?_
  refine pm_aload_n dX12_layBy_41 rfl rfl ?_
  refine pm_get fl_RX12_193_12 dX12_layBy_42 rfl rfl ?_
  refine pm_icmp_ge (tgt := 156) dX12_layBy_45 (by decide) (fun c_45 => absurd c_45 (show ¬ nI (S 26) ≤ nI f from by rw [nI_leI (by omega) (by omega)]; omega)) (fun c_45 => ?_)
  refine pm_iload_n dX12_layBy_48 rfl rfl ?_
  refine pm_iload dX12_layBy_49 rfl ?_
  refine pm_ishr dX12_layBy_51 ?_
  refine pm_iconst (v := 1) dX12_layBy_52 (by decide) ?_
  refine pm_iand dX12_layBy_53 ?_
  rw [th_bit (by omega) (by omega)]
  refine pm_iconst (v := 1) dX12_layBy_54 (by decide) ?_
  refine pm_icmp_ne (tgt := 150) dX12_layBy_55 (by decide) (fun c_55 => ?_) (fun c_55 => ?_)
  · refine pm_iinc (lv2 := [(4, _), (3, _), (2, _), (0, _), (1, _)]) dX12_layBy_150 rfl (nI_1 f) (Nat.le_of_ble_eq_true rfl) rfl ?_
    refine pm_goto (tgt := 39) dX12_layBy_153 (by decide) ?_
    refine pm_pick [0, 1, 2, 3, 4] rfl ?_
    have hbit : ¬ n / 2 ^ f % 2 = 1 := fun e => c_55 (by rw [e]; rfl)
    exact k hlt _ br tt t (by rw [th_lb0 hbit]; exact hp) hbr ht
  · have hbit : n / 2 ^ f % 2 = 1 := (nI_eq (b := 1) (by omega) (by decide)).mp c_55
    obtain ⟨a, b, ha, hb, hne, ea, eb⟩ := hI.2.2.2.2.2.1.2 f hlt
    obtain ⟨-, ⟨sa, hsa, esa⟩, -⟩ := th_nk hI ha
    obtain ⟨-, ⟨sb, hsb, esb⟩, -⟩ := th_nk hI hb
    refine pm_aload_n dX12_layBy_58 rfl rfl ?_
    refine pm_get fl_RX12_53_12 dX12_layBy_59 rfl rfl ?_
    refine pm_iload dX12_layBy_62 rfl ?_
    refine pm_iald dX12_layBy_64 rfl (th_in (by omega) (by decide)) ?_
    rw [th_cl (by omega), ea]
    refine pm_istore (lv2 := [(5, _), (4, _), (3, _), (2, _), (0, _), (1, _)]) dX12_layBy_65 (Nat.le_of_ble_eq_true rfl) rfl ?_
    refine pm_aload_n dX12_layBy_67 rfl rfl ?_
    refine pm_get fl_RX12_56_12 dX12_layBy_68 rfl rfl ?_
    refine pm_iload dX12_layBy_71 rfl ?_
    refine pm_iald dX12_layBy_73 rfl (th_in (by omega) (by decide)) ?_
    rw [th_cl (by omega), eb]
    refine pm_istore (lv2 := [(6, _), (5, _), (4, _), (3, _), (2, _), (0, _), (1, _)]) dX12_layBy_74 (Nat.le_of_ble_eq_true rfl) rfl ?_
    refine pm_iload_n dX12_layBy_76 rfl rfl ?_
    refine pm_if_eq (tgt := 102) dX12_layBy_77 (by decide) (fun c_77 => absurd c_77 (by decide)) (fun c_77 => ?_)
    refine pm_iload_n dX12_layBy_80 rfl rfl ?_
    refine pm_iload dX12_layBy_81 rfl ?_
    refine pm_ishr dX12_layBy_83 ?_
    refine pm_iconst (v := 1) dX12_layBy_84 (by decide) ?_
    refine pm_iand dX12_layBy_85 ?_
    rw [th_bit (by omega) (by omega)]
    refine pm_if_ne (tgt := 102) dX12_layBy_86 (by decide) (fun c_86 => ?_) (fun c_86 => ?_)
    · refine pm_iconst (v := 0) dX12_layBy_102 (by decide) ?_
      refine pm_istore_n (lv2 := [(3, _), (6, _), (5, _), (4, _), (2, _), (0, _), (1, _)]) dX12_layBy_103 rfl (Nat.le_of_ble_eq_true rfl) rfl ?_
      refine pm_aload_n dX12_layBy_104 rfl rfl ?_
      refine pm_get fl_RX12_59_12 dX12_layBy_105 rfl rfl ?_
      refine pm_iload dX12_layBy_108 rfl ?_
      refine pm_aload_n dX12_layBy_110 rfl rfl ?_
      refine pm_aload_n dX12_layBy_111 rfl rfl ?_
      refine pm_get fl_RX12_28_12 dX12_layBy_112 rfl rfl ?_
      refine pm_iload dX12_layBy_115 rfl ?_
      refine pm_iald dX12_layBy_117 rfl (th_in (by omega) (by decide)) ?_
      rw [th_cl (by omega), esa]
      refine pm_aload_n dX12_layBy_118 rfl rfl ?_
      refine pm_get fl_RX12_28_12 dX12_layBy_119 rfl rfl ?_
      refine pm_iload dX12_layBy_122 rfl ?_
      refine pm_iald dX12_layBy_124 rfl (th_in (by omega) (by decide)) ?_
      rw [th_cl (by omega), esb]
      refine pm_aload_n dX12_layBy_125 rfl rfl ?_
      refine pm_get fl_RX12_59_12 dX12_layBy_126 rfl rfl ?_
      refine pm_iload dX12_layBy_129 rfl ?_
      refine pm_iald dX12_layBy_131 rfl (th_in (by omega) (by decide)) ?_
      rw [th_cl (by omega)]
      refine pm_aload_n dX12_layBy_132 rfl rfl ?_
      refine pm_get fl_RX12_59_12 dX12_layBy_133 rfl rfl ?_
      refine pm_iload dX12_layBy_136 rfl ?_
      refine pm_iald dX12_layBy_138 rfl (th_in (by omega) (by decide)) ?_
      rw [th_cl (by omega)]
      refine pm_callV (M2 := m_X12_meet) (As := [_, _, _, _]) ok_X12_meet (ci := 12) rfl kw_1182 kw_1184 kw_29 dX12_layBy_139 rfl rfl rfl (Nat.le_of_ble_eq_true rfl) ⟨⟨Nat.le_of_ble_eq_true rfl, Nat.le_of_ble_eq_true rfl⟩, Nat.le_of_ble_eq_true rfl, Nat.le_of_ble_eq_true rfl⟩ ?_
      refine c_X12_meet (B := va_up B 17 t) hI.2.1 hsa hsb hI.2.2.2.1 ?_
      refine pm_iast (w2 := (_, _, _, _, _, _, _, _, [_, _, _, _, _, _, _, _, _, _, _, _, _, _, _, _, _, _, _, _, _, _, _, _])) dX12_layBy_142 rfl (th_in (by omega) (by decide)) rfl ?_
      rw [th_cl (by omega)]
      refine pm_iload_n dX12_layBy_143 rfl rfl ?_
      refine pm_iconst (v := 1) dX12_layBy_144 (by decide) ?_
      refine pm_iload dX12_layBy_145 rfl ?_
      refine pm_ishl dX12_layBy_147 ?_
      rw [th_sh1 b (by omega)]
      refine pm_ior dX12_layBy_148 ?_
      rw [th_or]
      refine pm_istore_n (lv2 := [(2, _), (3, _), (6, _), (5, _), (4, _), (0, _), (1, _)]) dX12_layBy_149 rfl (Nat.le_of_ble_eq_true rfl) rfl ?_
      refine pm_iinc (lv2 := [(4, _), (2, _), (3, _), (6, _), (5, _), (0, _), (1, _)]) dX12_layBy_150 rfl (nI_1 f) (Nat.le_of_ble_eq_true rfl) rfl ?_
      refine pm_goto (tgt := 39) dX12_layBy_153 (by decide) ?_
      refine pm_pick [0, 2, 1, 5, 6] rfl ?_
      refine k hlt false (br ||| 2 ^ b) (upd tt a (th_meet A (S 6) sa sb (tt a) (tt b))) (upd t a (th_meet A (S 6) sa sb (t a) (t b))) ?_ (th_or256 hbr (by omega)) ?_
      · rw [th_lb1 hbit hp ea eb (by omega) (by omega) esa esb (by omega) (by omega)]
        simp [show ¬ br / 2 ^ a % 2 = 0 from fun e => c_86 (by rw [e]; rfl)]
      · intro q hq
        rw [ht a ha, ht b hb]
        by_cases e : q = a
        · rw [upd, upd, if_pos e, if_pos e]
        · rw [upd, upd, if_neg e, if_neg e]
          exact ht q hq
    · refine pm_iload_n dX12_layBy_89 rfl rfl ?_
      refine pm_iload dX12_layBy_90 rfl ?_
      refine pm_ishr dX12_layBy_92 ?_
      refine pm_iconst (v := 1) dX12_layBy_93 (by decide) ?_
      refine pm_iand dX12_layBy_94 ?_
      rw [th_bit (by omega) (by omega)]
      refine pm_if_ne (tgt := 102) dX12_layBy_95 (by decide) (fun c_95 => ?_) (fun c_95 => ?_)
      · refine pm_iconst (v := 0) dX12_layBy_102 (by decide) ?_
        refine pm_istore_n (lv2 := [(3, _), (6, _), (5, _), (4, _), (2, _), (0, _), (1, _)]) dX12_layBy_103 rfl (Nat.le_of_ble_eq_true rfl) rfl ?_
        refine pm_aload_n dX12_layBy_104 rfl rfl ?_
        refine pm_get fl_RX12_59_12 dX12_layBy_105 rfl rfl ?_
        refine pm_iload dX12_layBy_108 rfl ?_
        refine pm_aload_n dX12_layBy_110 rfl rfl ?_
        refine pm_aload_n dX12_layBy_111 rfl rfl ?_
        refine pm_get fl_RX12_28_12 dX12_layBy_112 rfl rfl ?_
        refine pm_iload dX12_layBy_115 rfl ?_
        refine pm_iald dX12_layBy_117 rfl (th_in (by omega) (by decide)) ?_
        rw [th_cl (by omega), esa]
        refine pm_aload_n dX12_layBy_118 rfl rfl ?_
        refine pm_get fl_RX12_28_12 dX12_layBy_119 rfl rfl ?_
        refine pm_iload dX12_layBy_122 rfl ?_
        refine pm_iald dX12_layBy_124 rfl (th_in (by omega) (by decide)) ?_
        rw [th_cl (by omega), esb]
        refine pm_aload_n dX12_layBy_125 rfl rfl ?_
        refine pm_get fl_RX12_59_12 dX12_layBy_126 rfl rfl ?_
        refine pm_iload dX12_layBy_129 rfl ?_
        refine pm_iald dX12_layBy_131 rfl (th_in (by omega) (by decide)) ?_
        rw [th_cl (by omega)]
        refine pm_aload_n dX12_layBy_132 rfl rfl ?_
        refine pm_get fl_RX12_59_12 dX12_layBy_133 rfl rfl ?_
        refine pm_iload dX12_layBy_136 rfl ?_
        refine pm_iald dX12_layBy_138 rfl (th_in (by omega) (by decide)) ?_
        rw [th_cl (by omega)]
        refine pm_callV (M2 := m_X12_meet) (As := [_, _, _, _]) ok_X12_meet (ci := 12) rfl kw_1182 kw_1184 kw_29 dX12_layBy_139 rfl rfl rfl (Nat.le_of_ble_eq_true rfl) ⟨⟨Nat.le_of_ble_eq_true rfl, Nat.le_of_ble_eq_true rfl⟩, Nat.le_of_ble_eq_true rfl, Nat.le_of_ble_eq_true rfl⟩ ?_
        refine c_X12_meet (B := va_up B 17 t) hI.2.1 hsa hsb hI.2.2.2.1 ?_
        refine pm_iast (w2 := (_, _, _, _, _, _, _, _, [_, _, _, _, _, _, _, _, _, _, _, _, _, _, _, _, _, _, _, _, _, _, _, _])) dX12_layBy_142 rfl (th_in (by omega) (by decide)) rfl ?_
        rw [th_cl (by omega)]
        refine pm_iload_n dX12_layBy_143 rfl rfl ?_
        refine pm_iconst (v := 1) dX12_layBy_144 (by decide) ?_
        refine pm_iload dX12_layBy_145 rfl ?_
        refine pm_ishl dX12_layBy_147 ?_
        rw [th_sh1 b (by omega)]
        refine pm_ior dX12_layBy_148 ?_
        rw [th_or]
        refine pm_istore_n (lv2 := [(2, _), (3, _), (6, _), (5, _), (4, _), (0, _), (1, _)]) dX12_layBy_149 rfl (Nat.le_of_ble_eq_true rfl) rfl ?_
        refine pm_iinc (lv2 := [(4, _), (2, _), (3, _), (6, _), (5, _), (0, _), (1, _)]) dX12_layBy_150 rfl (nI_1 f) (Nat.le_of_ble_eq_true rfl) rfl ?_
        refine pm_goto (tgt := 39) dX12_layBy_153 (by decide) ?_
        refine pm_pick [0, 2, 1, 5, 6] rfl ?_
        refine k hlt false (br ||| 2 ^ b) (upd tt a (th_meet A (S 6) sa sb (tt a) (tt b))) (upd t a (th_meet A (S 6) sa sb (t a) (t b))) ?_ (th_or256 hbr (by omega)) ?_
        · rw [th_lb1 hbit hp ea eb (by omega) (by omega) esa esb (by omega) (by omega)]
          simp [show ¬ br / 2 ^ b % 2 = 0 from fun e => c_95 (by rw [e]; rfl)]
        · intro q hq
          rw [ht a ha, ht b hb]
          by_cases e : q = a
          · rw [upd, upd, if_pos e, if_pos e]
          · rw [upd, upd, if_neg e, if_neg e]
            exact ht q hq
      · refine pm_iconst (v := 1) dX12_layBy_98 (by decide) ?_
        refine pm_goto (tgt := 103) dX12_layBy_99 (by decide) ?_
        refine pm_istore_n (lv2 := [(3, _), (6, _), (5, _), (4, _), (2, _), (0, _), (1, _)]) dX12_layBy_103 rfl (Nat.le_of_ble_eq_true rfl) rfl ?_
        refine pm_aload_n dX12_layBy_104 rfl rfl ?_
        refine pm_get fl_RX12_59_12 dX12_layBy_105 rfl rfl ?_
        refine pm_iload dX12_layBy_108 rfl ?_
        refine pm_aload_n dX12_layBy_110 rfl rfl ?_
        refine pm_aload_n dX12_layBy_111 rfl rfl ?_
        refine pm_get fl_RX12_28_12 dX12_layBy_112 rfl rfl ?_
        refine pm_iload dX12_layBy_115 rfl ?_
        refine pm_iald dX12_layBy_117 rfl (th_in (by omega) (by decide)) ?_
        rw [th_cl (by omega), esa]
        refine pm_aload_n dX12_layBy_118 rfl rfl ?_
        refine pm_get fl_RX12_28_12 dX12_layBy_119 rfl rfl ?_
        refine pm_iload dX12_layBy_122 rfl ?_
        refine pm_iald dX12_layBy_124 rfl (th_in (by omega) (by decide)) ?_
        rw [th_cl (by omega), esb]
        refine pm_aload_n dX12_layBy_125 rfl rfl ?_
        refine pm_get fl_RX12_59_12 dX12_layBy_126 rfl rfl ?_
        refine pm_iload dX12_layBy_129 rfl ?_
        refine pm_iald dX12_layBy_131 rfl (th_in (by omega) (by decide)) ?_
        rw [th_cl (by omega)]
        refine pm_aload_n dX12_layBy_132 rfl rfl ?_
        refine pm_get fl_RX12_59_12 dX12_layBy_133 rfl rfl ?_
        refine pm_iload dX12_layBy_136 rfl ?_
        refine pm_iald dX12_layBy_138 rfl (th_in (by omega) (by decide)) ?_
        rw [th_cl (by omega)]
        refine pm_callV (M2 := m_X12_meet) (As := [_, _, _, _]) ok_X12_meet (ci := 12) rfl kw_1182 kw_1184 kw_29 dX12_layBy_139 rfl rfl rfl (Nat.le_of_ble_eq_true rfl) ⟨⟨Nat.le_of_ble_eq_true rfl, Nat.le_of_ble_eq_true rfl⟩, Nat.le_of_ble_eq_true rfl, Nat.le_of_ble_eq_true rfl⟩ ?_
        refine c_X12_meet (B := va_up B 17 t) hI.2.1 hsa hsb hI.2.2.2.1 ?_
        refine pm_iast (w2 := (_, _, _, _, _, _, _, _, [_, _, _, _, _, _, _, _, _, _, _, _, _, _, _, _, _, _, _, _, _, _, _, _])) dX12_layBy_142 rfl (th_in (by omega) (by decide)) rfl ?_
        rw [th_cl (by omega)]
        refine pm_iload_n dX12_layBy_143 rfl rfl ?_
        refine pm_iconst (v := 1) dX12_layBy_144 (by decide) ?_
        refine pm_iload dX12_layBy_145 rfl ?_
        refine pm_ishl dX12_layBy_147 ?_
        rw [th_sh1 b (by omega)]
        refine pm_ior dX12_layBy_148 ?_
        rw [th_or]
        refine pm_istore_n (lv2 := [(2, _), (3, _), (6, _), (5, _), (4, _), (0, _), (1, _)]) dX12_layBy_149 rfl (Nat.le_of_ble_eq_true rfl) rfl ?_
        refine pm_iinc (lv2 := [(4, _), (2, _), (3, _), (6, _), (5, _), (0, _), (1, _)]) dX12_layBy_150 rfl (nI_1 f) (Nat.le_of_ble_eq_true rfl) rfl ?_
        refine pm_goto (tgt := 39) dX12_layBy_153 (by decide) ?_
        refine pm_pick [0, 2, 1, 5, 6] rfl ?_
        refine k hlt true (br ||| 2 ^ b) (upd tt a (th_meet A (S 6) sa sb (tt a) (tt b))) (upd t a (th_meet A (S 6) sa sb (t a) (t b))) ?_ (th_or256 hbr (by omega)) ?_
        · rw [th_lb1 hbit hp ea eb (by omega) (by omega) esa esb (by omega) (by omega)]
          simp [(nI_eq (b := 0) (by omega) (by decide)).mp c_86, (nI_eq (b := 0) (by omega) (by decide)).mp c_95]
        · intro q hq
          rw [ht a ha, ht b hb]
          by_cases e : q = a
          · rw [upd, upd, if_pos e, if_pos e]
          · rw [upd, upd, if_neg e, if_neg e]
            exact ht q hq

set_option maxHeartbeats 600000 in
set_option maxRecDepth 100000 in
theorem b_X12_layBy_false {l : Launch} {G : pm_G} {ad : Nat → Nat → Nat} {a0 a3 a4 a5 a6 a7 : List pm_A} {a1 a2 : Nat → Option pm_A} {S : Nat → Nat} {A : Nat → Nat → Int32} {s : Nat → Int32} {B : Nat → Nat → Int32} {hs : Int64} {Q : pm_T} {n f br : Nat} {tt t : Nat → Int32} (hI : th_I S A) (hn : n < 1024) (hlt : f < S 26) (hp : th_lb A (S 6) n f = (false, br, tt)) (hbr : br < 256) (ht : ∀ q, q < S 11 → t q = tt q) (k : f < S 26 → ∀ ok br tt t, th_lb A (S 6) n (f + 1) = (ok, br, tt) → br < 256 → (∀ q, q < S 11 → t q = tt q) → pm_W l G m_X12_layBy ad 39 [(4, .int (nI (f + 1))), (3, .int (th_b01 ok)), (2, .int (nI br)), (0, .ref (ad 8 0)), (1, .int (nI n))] [] (a0, a1, a2, a3, a4, a5, a6, a7, th_mp ad S A s (va_up B 17 t) hs) 0 0 Q) : pm_W l G m_X12_layBy ad 39 [(4, .int (nI f)), (3, .int (th_b01 false)), (2, .int (nI br)), (0, .ref (ad 8 0)), (1, .int (nI n))] [] (a0, a1, a2, a3, a4, a5, a6, a7, th_mp ad S A s (va_up B 17 t) hs) 0 0 Q := by
  have h8 := hI.2.2.2.2.1.1
  have h3 := hI.2.1.1
  have h10 := hI.2.2.2.2.2.1.1
  refine pm_iload dX12_layBy_39 rfl ?_
  refine pm_aload_n dX12_layBy_41 rfl rfl ?_
  refine pm_get fl_RX12_193_12 dX12_layBy_42 rfl rfl ?_
  refine pm_icmp_ge (tgt := 156) dX12_layBy_45 (by decide) (fun c_45 => absurd c_45 (show ¬ nI (S 26) ≤ nI f from by rw [nI_leI (by omega) (by omega)]; omega)) (fun c_45 => ?_)
  refine pm_iload_n dX12_layBy_48 rfl rfl ?_
  refine pm_iload dX12_layBy_49 rfl ?_
  refine pm_ishr dX12_layBy_51 ?_
  refine pm_iconst (v := 1) dX12_layBy_52 (by decide) ?_
  refine pm_iand dX12_layBy_53 ?_
  rw [th_bit (by omega) (by omega)]
  refine pm_iconst (v := 1) dX12_layBy_54 (by decide) ?_
  refine pm_icmp_ne (tgt := 150) dX12_layBy_55 (by decide) (fun c_55 => ?_) (fun c_55 => ?_)
  · refine pm_iinc (lv2 := [(4, _), (3, _), (2, _), (0, _), (1, _)]) dX12_layBy_150 rfl (nI_1 f) (Nat.le_of_ble_eq_true rfl) rfl ?_
    refine pm_goto (tgt := 39) dX12_layBy_153 (by decide) ?_
    refine pm_pick [0, 1, 2, 3, 4] rfl ?_
    have hbit : ¬ n / 2 ^ f % 2 = 1 := fun e => c_55 (by rw [e]; rfl)
    exact k hlt _ br tt t (by rw [th_lb0 hbit]; exact hp) hbr ht
  · have hbit : n / 2 ^ f % 2 = 1 := (nI_eq (b := 1) (by omega) (by decide)).mp c_55
    obtain ⟨a, b, ha, hb, hne, ea, eb⟩ := hI.2.2.2.2.2.1.2 f hlt
    obtain ⟨-, ⟨sa, hsa, esa⟩, -⟩ := th_nk hI ha
    obtain ⟨-, ⟨sb, hsb, esb⟩, -⟩ := th_nk hI hb
    refine pm_aload_n dX12_layBy_58 rfl rfl ?_
    refine pm_get fl_RX12_53_12 dX12_layBy_59 rfl rfl ?_
    refine pm_iload dX12_layBy_62 rfl ?_
    refine pm_iald dX12_layBy_64 rfl (th_in (by omega) (by decide)) ?_
    rw [th_cl (by omega), ea]
    refine pm_istore (lv2 := [(5, _), (4, _), (3, _), (2, _), (0, _), (1, _)]) dX12_layBy_65 (Nat.le_of_ble_eq_true rfl) rfl ?_
    refine pm_aload_n dX12_layBy_67 rfl rfl ?_
    refine pm_get fl_RX12_56_12 dX12_layBy_68 rfl rfl ?_
    refine pm_iload dX12_layBy_71 rfl ?_
    refine pm_iald dX12_layBy_73 rfl (th_in (by omega) (by decide)) ?_
    rw [th_cl (by omega), eb]
    refine pm_istore (lv2 := [(6, _), (5, _), (4, _), (3, _), (2, _), (0, _), (1, _)]) dX12_layBy_74 (Nat.le_of_ble_eq_true rfl) rfl ?_
    refine pm_iload_n dX12_layBy_76 rfl rfl ?_
    refine pm_if_eq (tgt := 102) dX12_layBy_77 (by decide) (fun c_77 => ?_) (fun c_77 => absurd (rfl) c_77)
    refine pm_iconst (v := 0) dX12_layBy_102 (by decide) ?_
    refine pm_istore_n (lv2 := [(3, _), (6, _), (5, _), (4, _), (2, _), (0, _), (1, _)]) dX12_layBy_103 rfl (Nat.le_of_ble_eq_true rfl) rfl ?_
    refine pm_aload_n dX12_layBy_104 rfl rfl ?_
    refine pm_get fl_RX12_59_12 dX12_layBy_105 rfl rfl ?_
    refine pm_iload dX12_layBy_108 rfl ?_
    refine pm_aload_n dX12_layBy_110 rfl rfl ?_
    refine pm_aload_n dX12_layBy_111 rfl rfl ?_
    refine pm_get fl_RX12_28_12 dX12_layBy_112 rfl rfl ?_
    refine pm_iload dX12_layBy_115 rfl ?_
    refine pm_iald dX12_layBy_117 rfl (th_in (by omega) (by decide)) ?_
    rw [th_cl (by omega), esa]
    refine pm_aload_n dX12_layBy_118 rfl rfl ?_
    refine pm_get fl_RX12_28_12 dX12_layBy_119 rfl rfl ?_
    refine pm_iload dX12_layBy_122 rfl ?_
    refine pm_iald dX12_layBy_124 rfl (th_in (by omega) (by decide)) ?_
    rw [th_cl (by omega), esb]
    refine pm_aload_n dX12_layBy_125 rfl rfl ?_
    refine pm_get fl_RX12_59_12 dX12_layBy_126 rfl rfl ?_
    refine pm_iload dX12_layBy_129 rfl ?_
    refine pm_iald dX12_layBy_131 rfl (th_in (by omega) (by decide)) ?_
    rw [th_cl (by omega)]
    refine pm_aload_n dX12_layBy_132 rfl rfl ?_
    refine pm_get fl_RX12_59_12 dX12_layBy_133 rfl rfl ?_
    refine pm_iload dX12_layBy_136 rfl ?_
    refine pm_iald dX12_layBy_138 rfl (th_in (by omega) (by decide)) ?_
    rw [th_cl (by omega)]
    refine pm_callV (M2 := m_X12_meet) (As := [_, _, _, _]) ok_X12_meet (ci := 12) rfl kw_1182 kw_1184 kw_29 dX12_layBy_139 rfl rfl rfl (Nat.le_of_ble_eq_true rfl) ⟨⟨Nat.le_of_ble_eq_true rfl, Nat.le_of_ble_eq_true rfl⟩, Nat.le_of_ble_eq_true rfl, Nat.le_of_ble_eq_true rfl⟩ ?_
    refine c_X12_meet (B := va_up B 17 t) hI.2.1 hsa hsb hI.2.2.2.1 ?_
    refine pm_iast (w2 := (_, _, _, _, _, _, _, _, [_, _, _, _, _, _, _, _, _, _, _, _, _, _, _, _, _, _, _, _, _, _, _, _])) dX12_layBy_142 rfl (th_in (by omega) (by decide)) rfl ?_
    rw [th_cl (by omega)]
    refine pm_iload_n dX12_layBy_143 rfl rfl ?_
    refine pm_iconst (v := 1) dX12_layBy_144 (by decide) ?_
    refine pm_iload dX12_layBy_145 rfl ?_
    refine pm_ishl dX12_layBy_147 ?_
    rw [th_sh1 b (by omega)]
    refine pm_ior dX12_layBy_148 ?_
    rw [th_or]
    refine pm_istore_n (lv2 := [(2, _), (3, _), (6, _), (5, _), (4, _), (0, _), (1, _)]) dX12_layBy_149 rfl (Nat.le_of_ble_eq_true rfl) rfl ?_
    refine pm_iinc (lv2 := [(4, _), (2, _), (3, _), (6, _), (5, _), (0, _), (1, _)]) dX12_layBy_150 rfl (nI_1 f) (Nat.le_of_ble_eq_true rfl) rfl ?_
    refine pm_goto (tgt := 39) dX12_layBy_153 (by decide) ?_
    refine pm_pick [0, 2, 1, 5, 6] rfl ?_
    refine k hlt false (br ||| 2 ^ b) (upd tt a (th_meet A (S 6) sa sb (tt a) (tt b))) (upd t a (th_meet A (S 6) sa sb (t a) (t b))) ?_ (th_or256 hbr (by omega)) ?_
    · rw [th_lb1 hbit hp ea eb (by omega) (by omega) esa esb (by omega) (by omega)]
      simp []
    · intro q hq
      rw [ht a ha, ht b hb]
      by_cases e : q = a
      · rw [upd, upd, if_pos e, if_pos e]
      · rw [upd, upd, if_neg e, if_neg e]
        exact ht q hq

set_option maxHeartbeats 600000 in
set_option maxRecDepth 100000 in
theorem c_X12_layBy {l : Launch} {G : pm_G} {ad : Nat → Nat → Nat} {a0 a3 a4 a5 a6 a7 : List pm_A} {a1 a2 : Nat → Option pm_A} {S : Nat → Nat} {A : Nat → Nat → Int32} {s : Nat → Int32} {B : Nat → Nat → Int32} {hs : Int64} {Q : pm_T} {n : Nat} (hI : th_I S A) (hn : n < 1024) (hQ : ∀ t, (∀ q, q < S 11 → t q = (th_lb A (S 6) n (S 26)).2.2 q) → Q ad (some (.int (th_b01 (th_lb A (S 6) n (S 26)).1))) (a0, a1, a2, a3, a4, a5, a6, a7, th_mp ad S A s (va_up B 17 t) hs)) : pm_C l G m_X12_layBy [.ref (ad 8 0), .int (nI n)] ad (a0, a1, a2, a3, a4, a5, a6, a7, th_mp ad S A s B hs) Q := by
  have h8 := hI.2.2.2.2.1.1
  have h10 := hI.2.2.2.2.2.1.1
  refine pm_met (by decide) (Nat.le_of_ble_eq_true rfl) ?_
  refine pm_iconst (v := 0) dX12_layBy_0 (by decide) ?_
  refine pm_istore_n (lv2 := [(2, _), (0, _), (1, _)]) dX12_layBy_1 rfl (Nat.le_of_ble_eq_true rfl) rfl ?_
  refine pm_iconst (v := 1) dX12_layBy_2 (by decide) ?_
  refine pm_istore_n (lv2 := [(3, _), (2, _), (0, _), (1, _)]) dX12_layBy_3 rfl (Nat.le_of_ble_eq_true rfl) rfl ?_
  refine pm_iconst (v := 0) dX12_layBy_4 (by decide) ?_
  refine pm_istore (lv2 := [(4, _), (3, _), (2, _), (0, _), (1, _)]) dX12_layBy_5 (Nat.le_of_ble_eq_true rfl) rfl ?_
  suffices H : ∀ i, i ≤ S 11 → ∀ t : Nat → Int32, (∀ q, q < i → t q = A 9 q) → pm_W l G m_X12_layBy ad 7 [(4, .int (nI i)), (3, .int 1), (2, .int 0), (0, .ref (ad 8 0)), (1, .int (nI n))] [] (a0, a1, a2, a3, a4, a5, a6, a7, th_mp ad S A s (va_up B 17 t) hs) 0 0 Q from H 0 (Nat.zero_le _) (B 17) (fun q h => absurd h (by omega))
  refine th_loop _ ?_
  intro i hi k t ht
  refine pm_iload dX12_layBy_7 rfl ?_
  refine pm_aload_n dX12_layBy_9 rfl rfl ?_
  refine pm_get fl_RX12_137_12 dX12_layBy_10 rfl rfl ?_
  refine pm_icmp_ge (tgt := 36) dX12_layBy_13 (by decide) (fun c_13 => ?_) (fun c_13 => ?_)
  · refine pm_iconst (v := 0) dX12_layBy_36 (by decide) ?_
    refine pm_istore (lv2 := [(4, _), (3, _), (2, _), (0, _), (1, _)]) dX12_layBy_37 (Nat.le_of_ble_eq_true rfl) rfl ?_
    have he : i = S 11 := by
      rw [nI_leI (by omega) (by omega)] at c_13
      omega
    suffices H : ∀ f, f ≤ S 26 → ∀ ok br tt t, th_lb A (S 6) n f = (ok, br, tt) → br < 256 → (∀ q, q < S 11 → t q = tt q) → pm_W l G m_X12_layBy ad 39 [(4, .int (nI f)), (3, .int (th_b01 ok)), (2, .int (nI br)), (0, .ref (ad 8 0)), (1, .int (nI n))] [] (a0, a1, a2, a3, a4, a5, a6, a7, th_mp ad S A s (va_up B 17 t) hs) 0 0 Q from H 0 (Nat.zero_le _) true 0 (A 9) t rfl (by decide) (fun q hq => ht q (by omega))
    clear k ht
    refine th_loop _ ?_
    intro f hf k ok br tt t hp hbr ht
    by_cases hlt : f < S 26
    · cases ok with
      | true => exact b_X12_layBy_true hI hn hlt hp hbr ht k
      | false => exact b_X12_layBy_false hI hn hlt hp hbr ht k
    have hfe : f = S 26 := by omega
    refine pm_iload dX12_layBy_39 rfl ?_
    refine pm_aload_n dX12_layBy_41 rfl rfl ?_
    refine pm_get fl_RX12_193_12 dX12_layBy_42 rfl rfl ?_
    refine pm_icmp_ge (tgt := 156) dX12_layBy_45 (by decide) (fun c_45 => ?_) (fun c_45 => absurd (show nI (S 26) ≤ nI f from by rw [hfe]; exact Int32.le_refl _) c_45)
    refine pm_iload_n dX12_layBy_156 rfl rfl ?_
    refine pm_zret dX12_layBy_157 rfl (by cases ok <;> rfl) rfl rfl ?_
    subst hfe
    rw [hp] at hQ
    exact hQ t ht
  · have hlt : i < S 11 := by
      rw [nI_leI (by omega) (by omega)] at c_13
      omega
    refine pm_aload_n dX12_layBy_16 rfl rfl ?_
    refine pm_get fl_RX12_59_12 dX12_layBy_17 rfl rfl ?_
    refine pm_iload dX12_layBy_20 rfl ?_
    refine pm_aload_n dX12_layBy_22 rfl rfl ?_
    refine pm_get fl_RX12_34_12 dX12_layBy_23 rfl rfl ?_
    refine pm_iload dX12_layBy_26 rfl ?_
    refine pm_iald dX12_layBy_28 rfl (th_in (by omega) (by decide)) ?_
    refine pm_iast (w2 := (_, _, _, _, _, _, _, _, [_, _, _, _, _, _, _, _, _, _, _, _, _, _, _, _, _, _, _, _, _, _, _, _])) dX12_layBy_29 rfl (th_in (by omega) (by decide)) rfl ?_
    rw [th_cl (by omega)]
    refine pm_iinc (lv2 := [(4, _), (3, _), (2, _), (0, _), (1, _)]) dX12_layBy_30 rfl (nI_1 i) (Nat.le_of_ble_eq_true rfl) rfl ?_
    refine pm_goto (tgt := 7) dX12_layBy_33 (by decide) ?_
    refine pm_pick [0, 1, 2, 3, 4] rfl ?_
    refine k hlt (upd t i (A 9 i)) ?_
    intro q hq
    by_cases e : q = i
    · rw [upd, if_pos e, e]
    · rw [upd, if_neg e]
      exact ht q (by omega)

