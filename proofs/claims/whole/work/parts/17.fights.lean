abbrev th_R : Type := Nat × Int32 × Nat × Int32 × Int32 × Int32
def th_fr (A : Nat → Nat → Int32) (a b : Nat) (sd : Int32) : th_R := th_ft (pm_hd (th_n (A 6 a)) (A 8 a)) (pm_hd (th_n (A 6 b)) (A 8 b)) (A 4 (th_n (A 7 a))) (A 4 (th_n (A 7 b))) (decide (a < b)) 50 0 true sd 0 (A 12 a) (A 12 b)
def th_cr (A : Nat → Nat → Int32) (a b : Nat) (ca cb : Int32) : Nat → Nat → Int32 := va_up A 12 (upd (upd (A 12) a ca) b cb)
def th_fA (A : Nat → Nat → Int32) (how a b : Nat) (r : th_R) : Nat → Nat → Int32 := if r.1 = 0 then th_cr A a b r.2.2.2.2.1 r.2.2.2.2.2 else if r.1 = 1 then th_beat (th_cr A a b r.2.2.2.2.1 r.2.2.2.2.2) how a b else th_beat (th_cr A a b r.2.2.2.2.1 r.2.2.2.2.2) how b a
def th_fightA (S : Nat → Nat) (A : Nat → Nat → Int32) (x y z : Int32) : Int32 := if th_pr S x y then (if z < 0 then -102 else if A 13 (th_n x) = 0 ∧ A 13 (th_n y) = 0 then th_wn (th_n x) (th_n y) (th_fr A (th_n x) (th_n y) z).1 else -103) else -101
def th_fightT (S : Nat → Nat) (A : Nat → Nat → Int32) (x y z : Int32) : Nat → Nat → Int32 := if th_pr S x y then (if z < 0 then A else if A 13 (th_n x) = 0 ∧ A 13 (th_n y) = 0 then th_fA A (S 6) (th_n x) (th_n y) (th_fr A (th_n x) (th_n y) z) else A) else A
def th_wouldA (S : Nat → Nat) (A : Nat → Nat → Int32) (x y z q : Int32) : Int32 := if th_pr S x y then (if z < 0 ∨ ¬ (0 ≤ q ∧ q ≤ 3) then -102 else if A 13 (th_n x) = 0 ∧ A 13 (th_n y) = 0 then (if q = 0 then th_wn (th_n x) (th_n y) (th_fr A (th_n x) (th_n y) z).1 else if q = 1 then nI (th_fr A (th_n x) (th_n y) z).2.2.1 else if q = 2 then (th_fr A (th_n x) (th_n y) z).2.2.2.1 else (th_fr A (th_n x) (th_n y) z).2.1) else -103) else -101
theorem th_three (n : Nat) : n = 0 ∨ n = 1 ∨ 2 ≤ n := by omega
theorem th_wn0 {a b n : Nat} (h : n = 0) : th_wn a b n = -1 := if_pos h
theorem th_wn1 {a b n : Nat} (h : n = 1) : th_wn a b n = nI a := (if_neg (by omega)).trans (if_pos h)
theorem th_wn2 {a b n : Nat} (h : 2 ≤ n) : th_wn a b n = nI b := (if_neg (by omega)).trans (if_neg (by omega))
theorem th_I_cr {S : Nat → Nat} {A : Nat → Nat → Int32} {a b : Nat} {ca cb : Int32} (hI : th_I S A) (ha : a < S 11) (hb : b < S 11) : th_I S (th_cr A a b ca cb) := by
  refine ⟨hI.1, hI.2.1, hI.2.2.1, hI.2.2.2.1, ⟨hI.2.2.2.2.1.1, hI.2.2.2.2.1.2.1, fun i h1 h2 => ⟨?_, (hI.2.2.2.2.1.2.2 i h1 h2).2⟩⟩, hI.2.2.2.2.2.1, hI.2.2.2.2.2.2.1, hI.2.2.2.2.2.2.2⟩
  show upd (upd (A 12) a ca) b cb i = 0
  rw [upd, if_neg (by omega), upd, if_neg (by omega)]
  exact (hI.2.2.2.2.1.2.2 i h1 h2).1
theorem th_pw2 {l : Launch} {G : pm_G} {M : pm_M} {ad : Nat → Nat → Nat} {pc : Nat} {lv : List (Nat × Value)} {st : List Value} {a0 a3 a4 a5 a6 a7 a8 : List pm_A} {a1 f f' : Nat → Option pm_A} {cs ss : Nat} {Q : pm_T} (h : f = f') (k : pm_W l G M ad pc lv st (a0, a1, f', a3, a4, a5, a6, a7, a8) cs ss Q) : pm_W l G M ad pc lv st (a0, a1, f, a3, a4, a5, a6, a7, a8) cs ss Q := h ▸ k
def th_bx (X : Nat → Int32) (w ca cb sd st tg : Int32) : Nat → Int32 := upd (upd (upd (upd (upd (upd X 10 w) 11 ca) 12 cb) 13 sd) 14 st) 15 tg
theorem th_g2_cr {ad : Nat → Nat → Nat} {S : Nat → Nat} {A Y : Nat → Nat → Int32} {a b ka kb : Nat} {ca cb : Int32} (ha : a < S 11) (hb : b < S 11) (hne : a ≠ b) (ea : th_n (A 6 a) = ka) (eb : th_n (A 6 b) = kb) : va_up (va_up (th_g2 ad S A Y) a (some (.inr (pm_kc ka, (th_nf ad A Y a).set 6 (.int ca))))) b (some (.inr (pm_kc kb, (th_nf ad A Y b).set 6 (.int cb)))) = th_g2 ad S (th_cr A a b ca cb) Y := by
  have g1 := th_g2_set (ad := ad) (S := S) (A := A) (A' := va_up A 12 (upd (A 12) a ca)) (Y := Y) (Y' := Y) (kd := ka) (L := (th_nf ad A Y a).set 6 (.int ca)) ha ea (by simp [th_nf, va_up, upd]) (fun i hi => ⟨rfl, by simp [th_nf, va_up, upd, hi]⟩)
  have g2 := th_g2_set (ad := ad) (S := S) (A := va_up A 12 (upd (A 12) a ca)) (A' := th_cr A a b ca cb) (Y := Y) (Y' := Y) (kd := kb) (L := (th_nf ad A Y b).set 6 (.int cb)) hb eb (by simp [th_nf, th_cr, va_up, upd]) (fun i hi => ⟨rfl, by simp [th_nf, th_cr, va_up, upd, hi]⟩)
  exact (congrArg (fun f => va_up f b (some (.inr (pm_kc kb, (th_nf ad A Y b).set 6 (.int cb))))) g1).trans g2
set_option maxHeartbeats 600000 in
set_option maxRecDepth 100000 in
theorem c_X12_fight {l : Launch} {G : pm_G} {ad : Nat → Nat → Nat} {a0 a3 a4 a5 a6 a7 : List pm_A} {a1 a2 : Nat → Option pm_A} {S : Nat → Nat} {A : Nat → Nat → Int32} {s : Nat → Int32} {B : Nat → Nat → Int32} {hs : Int64} {Q : pm_T} {x y z : Int32} (hI : th_I S A) (hQ : ∀ s2, Q ad (some (.int (th_fightA S A x y z))) (a0, a1, a2, a3, a4, a5, a6, a7, th_mp ad S (th_fightT S A x y z) s2 B hs)) : pm_C l G m_X12_fight [.ref (ad 8 0), .int x, .int y, .int z] ad (a0, a1, a2, a3, a4, a5, a6, a7, th_mp ad S A s B hs) Q := by
  have h8 := hI.2.2.2.2.1.1
  have h3 := hI.2.1.1
  refine pm_met (by decide) (Nat.le_of_ble_eq_true rfl) ?_
  refine pm_aload_n dX12_fight_0 rfl rfl ?_
  refine pm_iload_n dX12_fight_1 rfl rfl ?_
  refine pm_iload_n dX12_fight_2 rfl rfl ?_
  refine pm_callV (M2 := m_X12_isPair) (As := [_, _]) ok_X12_isPair (ci := 12) rfl kw_1174 kw_1176 kw_27 dX12_fight_3 rfl rfl rfl (Nat.le_of_ble_eq_true rfl) ⟨⟨Nat.le_of_ble_eq_true rfl, Nat.le_of_ble_eq_true rfl⟩, Nat.le_of_ble_eq_true rfl, Nat.le_of_ble_eq_true rfl⟩ ?_
  refine c_X12_isPair h8 (fun i j hi hj hne ei ej => ?_) (fun hn => ?_)
  · subst ei
    subst ej
    rw [th_fightA, th_fightT, if_pos (th_prt h8 hi hj hne), if_pos (th_prt h8 hi hj hne), th_n_nI (show i < 2 ^ 31 by omega), th_n_nI (show j < 2 ^ 31 by omega)] at hQ
    refine pm_if_ne (tgt := 12) dX12_fight_6 (by decide) (fun c_6 => ?_) (fun c_6 => absurd c_6 (by decide))
    refine pm_iload_n dX12_fight_12 rfl rfl ?_
    refine pm_if_ge (tgt := 19) dX12_fight_13 (by decide) (fun c_13 => ?_) (fun c_13 => ?_)
    · rw [if_neg (Int32.not_lt.mpr c_13), if_neg (Int32.not_lt.mpr c_13)] at hQ
      refine pm_aload_n dX12_fight_19 rfl rfl ?_
      refine pm_get fl_RX12_46_12 dX12_fight_20 rfl rfl ?_
      refine pm_iload_n dX12_fight_23 rfl rfl ?_
      refine pm_zald dX12_fight_24 rfl (th_in (by omega) (by decide)) ?_
      rw [th_cl (by omega)]
      refine pm_if_ne (tgt := 37) dX12_fight_25 (by decide) (fun c_25 => ?_) (fun c_25 => ?_)
      · refine pm_bipush (v := (-103)) dX12_fight_37 (by decide) ?_
        refine pm_iret dX12_fight_39 rfl rfl rfl ?_
        rw [if_neg (fun z => c_25 z.1), if_neg (fun z => c_25 z.1)] at hQ
        exact hQ s
      · refine pm_aload_n dX12_fight_28 rfl rfl ?_
        refine pm_get fl_RX12_46_12 dX12_fight_29 rfl rfl ?_
        refine pm_iload_n dX12_fight_32 rfl rfl ?_
        refine pm_zald dX12_fight_33 rfl (th_in (by omega) (by decide)) ?_
        rw [th_cl (by omega)]
        refine pm_if_eq (tgt := 40) dX12_fight_34 (by decide) (fun c_34 => ?_) (fun c_34 => ?_)
        · refine pm_aload_n dX12_fight_40 rfl rfl ?_
          refine pm_iload_n dX12_fight_41 rfl rfl ?_
          refine pm_iload_n dX12_fight_42 rfl rfl ?_
          refine pm_iload_n dX12_fight_43 rfl rfl ?_
          refine pm_callV (M2 := m_X12_fought) (As := [_, _, _]) ok_X12_fought (ci := 12) rfl kw_1190 kw_1192 kw_30 dX12_fight_44 rfl rfl rfl (Nat.le_of_ble_eq_true rfl) ⟨⟨Nat.le_of_ble_eq_true rfl, Nat.le_of_ble_eq_true rfl⟩, Nat.le_of_ble_eq_true rfl, Nat.le_of_ble_eq_true rfl⟩ ?_
          rw [if_pos ⟨c_25, c_34⟩, if_pos ⟨c_25, c_34⟩] at hQ
          obtain ⟨⟨ki, hki, eki⟩, ⟨si, hsi, esi⟩, -⟩ := th_nk hI hi
          obtain ⟨⟨kj, hkj, ekj⟩, ⟨sj, hsj, esj⟩, -⟩ := th_nk hI hj
          refine c_X12_fought (ka := ki) (kb := kj) (sa := si) (sb := sj) (by omega) (by omega) hne hki hkj eki ekj (by omega) (by omega) esi esj ?_
          unfold th_FQ
          generalize hr : th_ft (pm_hd ki (A 8 i)) (pm_hd kj (A 8 j)) (A 4 si) (A 4 sj) (decide (i < j)) 50 0 true z 0 (A 12 i) (A 12 j) = r
          obtain ⟨wn, sd2, k2, tg2, ca2, cb2⟩ := r
          have hfr : th_fr A i j z = (wn, sd2, k2, tg2, ca2, cb2) := by
            unfold th_fr
            rw [eki, ekj, esi, esj, th_n_nI (show ki < 2 ^ 31 by omega), th_n_nI (show kj < 2 ^ 31 by omega), th_n_nI (show si < 2 ^ 31 by omega), th_n_nI (show sj < 2 ^ 31 by omega)]
            exact hr
          show pm_W _ _ _ _ _ _ (.int (th_wn i j wn) :: _) _ _ _ _
          rw [hfr] at hQ
          unfold th_fA at hQ
          rcases th_three wn with w0 | w0 | w0
          · rw [th_wn0 w0]
            rw [th_wn0 w0, if_pos w0] at hQ
            refine pm_istore (lv2 := [(4, _), (0, _), (1, _), (2, _), (3, _)]) dX12_fight_47 (Nat.le_of_ble_eq_true rfl) rfl ?_
            refine pm_aload_n dX12_fight_49 rfl rfl ?_
            refine pm_get fl_RX12_43_12 dX12_fight_50 rfl rfl ?_
            refine pm_iload_n dX12_fight_53 rfl rfl ?_
            refine pm_aload_n dX12_fight_54 rfl rfl ?_
            refine pm_get fl_RX12_179_12 dX12_fight_55 rfl rfl ?_
            refine pm_iast (w2 := (_, _, _, _, _, _, _, _, [_, _, _, _, _, _, _, _, _, _, _, _, _, _, _, _, _, _, _, _, _, _, _, _])) dX12_fight_58 rfl (th_in (by omega) (by decide)) rfl ?_
            rw [th_cl (by omega)]
            refine pm_aload_n dX12_fight_59 rfl rfl ?_
            refine pm_get fl_RX12_43_12 dX12_fight_60 rfl rfl ?_
            refine pm_iload_n dX12_fight_63 rfl rfl ?_
            refine pm_aload_n dX12_fight_64 rfl rfl ?_
            refine pm_get fl_RX12_182_12 dX12_fight_65 rfl rfl ?_
            refine pm_iast (w2 := (_, _, _, _, _, _, _, _, [_, _, _, _, _, _, _, _, _, _, _, _, _, _, _, _, _, _, _, _, _, _, _, _])) dX12_fight_68 rfl (th_in (by omega) (by decide)) rfl ?_
            rw [th_cl (by omega)]
            refine pm_iload dX12_fight_69 rfl ?_
            refine pm_iconst (v := (-1)) dX12_fight_71 (by decide) ?_
            refine pm_icmp_eq (tgt := 92) dX12_fight_72 (by decide) (fun c_72 => ?_) (fun c_72 => absurd (rfl) c_72)
            refine pm_iload dX12_fight_92 rfl ?_
            refine pm_iret dX12_fight_94 rfl rfl rfl ?_
            exact hQ (upd (upd (upd (upd (upd s 21 sd2) 22 (nI k2)) 23 tg2) 24 ca2) 25 cb2)
          · rw [th_wn1 w0]
            rw [th_wn1 w0, if_neg (by omega), if_pos w0] at hQ
            refine pm_istore (lv2 := [(4, _), (0, _), (1, _), (2, _), (3, _)]) dX12_fight_47 (Nat.le_of_ble_eq_true rfl) rfl ?_
            refine pm_aload_n dX12_fight_49 rfl rfl ?_
            refine pm_get fl_RX12_43_12 dX12_fight_50 rfl rfl ?_
            refine pm_iload_n dX12_fight_53 rfl rfl ?_
            refine pm_aload_n dX12_fight_54 rfl rfl ?_
            refine pm_get fl_RX12_179_12 dX12_fight_55 rfl rfl ?_
            refine pm_iast (w2 := (_, _, _, _, _, _, _, _, [_, _, _, _, _, _, _, _, _, _, _, _, _, _, _, _, _, _, _, _, _, _, _, _])) dX12_fight_58 rfl (th_in (by omega) (by decide)) rfl ?_
            rw [th_cl (by omega)]
            refine pm_aload_n dX12_fight_59 rfl rfl ?_
            refine pm_get fl_RX12_43_12 dX12_fight_60 rfl rfl ?_
            refine pm_iload_n dX12_fight_63 rfl rfl ?_
            refine pm_aload_n dX12_fight_64 rfl rfl ?_
            refine pm_get fl_RX12_182_12 dX12_fight_65 rfl rfl ?_
            refine pm_iast (w2 := (_, _, _, _, _, _, _, _, [_, _, _, _, _, _, _, _, _, _, _, _, _, _, _, _, _, _, _, _, _, _, _, _])) dX12_fight_68 rfl (th_in (by omega) (by decide)) rfl ?_
            rw [th_cl (by omega)]
            refine pm_iload dX12_fight_69 rfl ?_
            refine pm_iconst (v := (-1)) dX12_fight_71 (by decide) ?_
            refine pm_icmp_eq (tgt := 92) dX12_fight_72 (by decide) (fun c_72 => absurd c_72 (th_nm1 (by omega))) (fun c_72 => ?_)
            refine pm_aload_n dX12_fight_75 rfl rfl ?_
            refine pm_iload dX12_fight_76 rfl ?_
            refine pm_iload dX12_fight_78 rfl ?_
            refine pm_iload_n dX12_fight_80 rfl rfl ?_
            refine pm_icmp_ne (tgt := 88) dX12_fight_81 (by decide) (fun c_81 => absurd (rfl) c_81) (fun c_81 => ?_)
            refine pm_iload_n dX12_fight_84 rfl rfl ?_
            refine pm_goto (tgt := 89) dX12_fight_85 (by decide) ?_
            refine pm_callV (M2 := m_X12_beat) (As := [_, _]) ok_X12_beat (ci := 12) rfl kw_1178 kw_1180 kw_28 dX12_fight_89 rfl rfl rfl (Nat.le_of_ble_eq_true rfl) ⟨⟨Nat.le_of_ble_eq_true rfl, Nat.le_of_ble_eq_true rfl⟩, Nat.le_of_ble_eq_true rfl, Nat.le_of_ble_eq_true rfl⟩ ?_
            refine c_X12_beat (A := th_cr A i j ca2 cb2) (s := (upd (upd (upd (upd (upd s 21 sd2) 22 (nI k2)) 23 tg2) 24 ca2) 25 cb2)) (th_I_cr hI hi hj) hi hj ?_
            refine pm_iload dX12_fight_92 rfl ?_
            refine pm_iret dX12_fight_94 rfl rfl rfl ?_
            exact hQ (upd (upd (upd (upd (upd s 21 sd2) 22 (nI k2)) 23 tg2) 24 ca2) 25 cb2)
          · rw [th_wn2 w0]
            rw [th_wn2 w0, if_neg (by omega), if_neg (by omega)] at hQ
            refine pm_istore (lv2 := [(4, _), (0, _), (1, _), (2, _), (3, _)]) dX12_fight_47 (Nat.le_of_ble_eq_true rfl) rfl ?_
            refine pm_aload_n dX12_fight_49 rfl rfl ?_
            refine pm_get fl_RX12_43_12 dX12_fight_50 rfl rfl ?_
            refine pm_iload_n dX12_fight_53 rfl rfl ?_
            refine pm_aload_n dX12_fight_54 rfl rfl ?_
            refine pm_get fl_RX12_179_12 dX12_fight_55 rfl rfl ?_
            refine pm_iast (w2 := (_, _, _, _, _, _, _, _, [_, _, _, _, _, _, _, _, _, _, _, _, _, _, _, _, _, _, _, _, _, _, _, _])) dX12_fight_58 rfl (th_in (by omega) (by decide)) rfl ?_
            rw [th_cl (by omega)]
            refine pm_aload_n dX12_fight_59 rfl rfl ?_
            refine pm_get fl_RX12_43_12 dX12_fight_60 rfl rfl ?_
            refine pm_iload_n dX12_fight_63 rfl rfl ?_
            refine pm_aload_n dX12_fight_64 rfl rfl ?_
            refine pm_get fl_RX12_182_12 dX12_fight_65 rfl rfl ?_
            refine pm_iast (w2 := (_, _, _, _, _, _, _, _, [_, _, _, _, _, _, _, _, _, _, _, _, _, _, _, _, _, _, _, _, _, _, _, _])) dX12_fight_68 rfl (th_in (by omega) (by decide)) rfl ?_
            rw [th_cl (by omega)]
            refine pm_iload dX12_fight_69 rfl ?_
            refine pm_iconst (v := (-1)) dX12_fight_71 (by decide) ?_
            refine pm_icmp_eq (tgt := 92) dX12_fight_72 (by decide) (fun c_72 => absurd c_72 (th_nm1 (by omega))) (fun c_72 => ?_)
            refine pm_aload_n dX12_fight_75 rfl rfl ?_
            refine pm_iload dX12_fight_76 rfl ?_
            refine pm_iload dX12_fight_78 rfl ?_
            refine pm_iload_n dX12_fight_80 rfl rfl ?_
            refine pm_icmp_ne (tgt := 88) dX12_fight_81 (by decide) (fun c_81 => ?_) (fun c_81 => absurd c_81 (fun e => hne ((nI_eq (by omega) (by omega)).mp e).symm))
            refine pm_iload_n dX12_fight_88 rfl rfl ?_
            refine pm_callV (M2 := m_X12_beat) (As := [_, _]) ok_X12_beat (ci := 12) rfl kw_1178 kw_1180 kw_28 dX12_fight_89 rfl rfl rfl (Nat.le_of_ble_eq_true rfl) ⟨⟨Nat.le_of_ble_eq_true rfl, Nat.le_of_ble_eq_true rfl⟩, Nat.le_of_ble_eq_true rfl, Nat.le_of_ble_eq_true rfl⟩ ?_
            refine c_X12_beat (A := th_cr A i j ca2 cb2) (s := (upd (upd (upd (upd (upd s 21 sd2) 22 (nI k2)) 23 tg2) 24 ca2) 25 cb2)) (th_I_cr hI hi hj) hj hi ?_
            refine pm_iload dX12_fight_92 rfl ?_
            refine pm_iret dX12_fight_94 rfl rfl rfl ?_
            exact hQ (upd (upd (upd (upd (upd s 21 sd2) 22 (nI k2)) 23 tg2) 24 ca2) 25 cb2)
        · refine pm_bipush (v := (-103)) dX12_fight_37 (by decide) ?_
          refine pm_iret dX12_fight_39 rfl rfl rfl ?_
          rw [if_neg (fun z => c_34 z.2), if_neg (fun z => c_34 z.2)] at hQ
          exact hQ s
    · refine pm_bipush (v := (-102)) dX12_fight_16 (by decide) ?_
      refine pm_iret dX12_fight_18 rfl rfl rfl ?_
      rw [if_pos (Int32.not_le.mp c_13), if_pos (Int32.not_le.mp c_13)] at hQ
      exact hQ s
  · rw [th_fightA, th_fightT, if_neg (th_prf h8 hn), if_neg (th_prf h8 hn)] at hQ
    refine pm_if_ne (tgt := 12) dX12_fight_6 (by decide) (fun c_6 => absurd (rfl) c_6) (fun c_6 => ?_)
    refine pm_bipush (v := (-101)) dX12_fight_9 (by decide) ?_
    refine pm_iret dX12_fight_11 rfl rfl rfl ?_
    exact hQ s

set_option maxHeartbeats 600000 in
set_option maxRecDepth 100000 in
theorem c_X12_would {l : Launch} {G : pm_G} {ad : Nat → Nat → Nat} {a0 a3 a4 a5 a6 a7 : List pm_A} {a1 a2 : Nat → Option pm_A} {S : Nat → Nat} {A : Nat → Nat → Int32} {s : Nat → Int32} {B : Nat → Nat → Int32} {hs : Int64} {Q : pm_T} {x y z q : Int32} (hI : th_I S A) (hQ : ∀ s2, Q ad (some (.int (th_wouldA S A x y z q))) (a0, a1, a2, a3, a4, a5, a6, a7, th_mp ad S A s2 B hs)) : pm_C l G m_X12_would [.ref (ad 8 0), .int x, .int y, .int z, .int q] ad (a0, a1, a2, a3, a4, a5, a6, a7, th_mp ad S A s B hs) Q := by
  have h8 := hI.2.2.2.2.1.1
  have h3 := hI.2.1.1
  refine pm_met (by decide) (Nat.le_of_ble_eq_true rfl) ?_
  refine pm_aload_n dX12_would_0 rfl rfl ?_
  refine pm_iload_n dX12_would_1 rfl rfl ?_
  refine pm_iload_n dX12_would_2 rfl rfl ?_
  refine pm_callV (M2 := m_X12_isPair) (As := [_, _]) ok_X12_isPair (ci := 12) rfl kw_1174 kw_1176 kw_27 dX12_would_3 rfl rfl rfl (Nat.le_of_ble_eq_true rfl) ⟨⟨Nat.le_of_ble_eq_true rfl, Nat.le_of_ble_eq_true rfl⟩, Nat.le_of_ble_eq_true rfl, Nat.le_of_ble_eq_true rfl⟩ ?_
  refine c_X12_isPair h8 (fun i j hi hj hne ei ej => ?_) (fun hn => ?_)
  · subst ei
    subst ej
    rw [th_wouldA, if_pos (th_prt h8 hi hj hne), th_n_nI (show i < 2 ^ 31 by omega), th_n_nI (show j < 2 ^ 31 by omega)] at hQ
    refine pm_if_ne (tgt := 12) dX12_would_6 (by decide) (fun c_6 => ?_) (fun c_6 => absurd c_6 (by decide))
    refine pm_iload_n dX12_would_12 rfl rfl ?_
    refine pm_if_lt (tgt := 29) dX12_would_13 (by decide) (fun c_13 => ?_) (fun c_13 => ?_)
    · refine pm_bipush (v := (-102)) dX12_would_29 (by decide) ?_
      refine pm_iret dX12_would_31 rfl rfl rfl ?_
      rw [if_pos (Or.inl c_13)] at hQ
      exact hQ s
    · refine pm_iload dX12_would_16 rfl ?_
      refine pm_i2l dX12_would_18 ?_
      refine pm_lconst (v := 0) dX12_would_19 (by decide) ?_
      refine pm_ldc2 kw_1142 dX12_would_20 ?_
      refine pm_callS (M2 := m_X12_in) (As := [_, _, _]) ok_X12_in kw_1115 kw_1116 dX12_would_23 rfl rfl (Nat.le_of_ble_eq_true rfl) ⟨⟨Nat.le_of_ble_eq_true rfl, Nat.le_of_ble_eq_true rfl⟩, Nat.le_of_ble_eq_true rfl, Nat.le_of_ble_eq_true rfl⟩ ?_
      refine c_X12_in32 (lo := 0) (hi := 3) rfl rfl (fun u v => ?_) (fun u => ?_)
      · refine pm_if_ne (tgt := 32) dX12_would_26 (by decide) (fun c_26 => ?_) (fun c_26 => absurd c_26 (by decide))
        rw [if_neg (fun h => h.elim c_13 (fun h => h ⟨u, v⟩))] at hQ
        refine pm_aload_n dX12_would_32 rfl rfl ?_
        refine pm_get fl_RX12_46_12 dX12_would_33 rfl rfl ?_
        refine pm_iload_n dX12_would_36 rfl rfl ?_
        refine pm_zald dX12_would_37 rfl (th_in (by omega) (by decide)) ?_
        rw [th_cl (by omega)]
        refine pm_if_ne (tgt := 50) dX12_would_38 (by decide) (fun c_38 => ?_) (fun c_38 => ?_)
        · refine pm_bipush (v := (-103)) dX12_would_50 (by decide) ?_
          refine pm_iret dX12_would_52 rfl rfl rfl ?_
          rw [if_neg (fun z => c_38 z.1)] at hQ
          exact hQ s
        · refine pm_aload_n dX12_would_41 rfl rfl ?_
          refine pm_get fl_RX12_46_12 dX12_would_42 rfl rfl ?_
          refine pm_iload_n dX12_would_45 rfl rfl ?_
          refine pm_zald dX12_would_46 rfl (th_in (by omega) (by decide)) ?_
          rw [th_cl (by omega)]
          refine pm_if_eq (tgt := 53) dX12_would_47 (by decide) (fun c_47 => ?_) (fun c_47 => ?_)
          · refine pm_aload_n dX12_would_53 rfl rfl ?_
            refine pm_iload_n dX12_would_54 rfl rfl ?_
            refine pm_iload_n dX12_would_55 rfl rfl ?_
            refine pm_iload_n dX12_would_56 rfl rfl ?_
            refine pm_callV (M2 := m_X12_fought) (As := [_, _, _]) ok_X12_fought (ci := 12) rfl kw_1190 kw_1192 kw_30 dX12_would_57 rfl rfl rfl (Nat.le_of_ble_eq_true rfl) ⟨⟨Nat.le_of_ble_eq_true rfl, Nat.le_of_ble_eq_true rfl⟩, Nat.le_of_ble_eq_true rfl, Nat.le_of_ble_eq_true rfl⟩ ?_
            rw [if_pos ⟨c_38, c_47⟩] at hQ
            obtain ⟨⟨ki, hki, eki⟩, ⟨si, hsi, esi⟩, -⟩ := th_nk hI hi
            obtain ⟨⟨kj, hkj, ekj⟩, ⟨sj, hsj, esj⟩, -⟩ := th_nk hI hj
            refine c_X12_fought (ka := ki) (kb := kj) (sa := si) (sb := sj) (by omega) (by omega) hne hki hkj eki ekj (by omega) (by omega) esi esj ?_
            unfold th_FQ
            generalize hr : th_ft (pm_hd ki (A 8 i)) (pm_hd kj (A 8 j)) (A 4 si) (A 4 sj) (decide (i < j)) 50 0 true z 0 (A 12 i) (A 12 j) = r
            obtain ⟨wn, sd2, k2, tg2, ca2, cb2⟩ := r
            have hfr : th_fr A i j z = (wn, sd2, k2, tg2, ca2, cb2) := by
              unfold th_fr
              rw [eki, ekj, esi, esj, th_n_nI (show ki < 2 ^ 31 by omega), th_n_nI (show kj < 2 ^ 31 by omega), th_n_nI (show si < 2 ^ 31 by omega), th_n_nI (show sj < 2 ^ 31 by omega)]
              exact hr
            show pm_W _ _ _ _ _ _ (.int (th_wn i j wn) :: _) _ _ _ _
            rw [hfr] at hQ
            refine pm_istore (lv2 := [(5, _), (0, _), (1, _), (2, _), (3, _), (4, _)]) dX12_would_60 (Nat.le_of_ble_eq_true rfl) rfl ?_
            refine pm_iload dX12_would_62 rfl ?_
            refine pm_if_ne (tgt := 72) dX12_would_64 (by decide) (fun c_64 => ?_) (fun c_64 => ?_)
            · refine pm_iload dX12_would_72 rfl ?_
              refine pm_iconst (v := 1) dX12_would_74 (by decide) ?_
              refine pm_icmp_ne (tgt := 85) dX12_would_75 (by decide) (fun c_75 => ?_) (fun c_75 => ?_)
              · refine pm_iload dX12_would_85 rfl ?_
                refine pm_iconst (v := 2) dX12_would_87 (by decide) ?_
                refine pm_icmp_ne (tgt := 98) dX12_would_88 (by decide) (fun c_88 => ?_) (fun c_88 => ?_)
                · refine pm_aload_n dX12_would_98 rfl rfl ?_
                  refine pm_get fl_RX12_165_12 dX12_would_99 rfl rfl ?_
                  refine pm_iret dX12_would_102 rfl rfl rfl ?_
                  exact th_r ((if_neg c_64).trans ((if_neg c_75).trans (if_neg c_88))) (hQ (upd (upd (upd (upd (upd s 21 sd2) 22 (nI k2)) 23 tg2) 24 ca2) 25 cb2))
                · refine pm_aload_n dX12_would_91 rfl rfl ?_
                  refine pm_get fl_RX12_176_12 dX12_would_92 rfl rfl ?_
                  refine pm_goto (tgt := 102) dX12_would_95 (by decide) ?_
                  refine pm_iret dX12_would_102 rfl rfl rfl ?_
                  exact th_r ((if_neg c_64).trans ((if_neg c_75).trans (if_pos c_88))) (hQ (upd (upd (upd (upd (upd s 21 sd2) 22 (nI k2)) 23 tg2) 24 ca2) 25 cb2))
              · refine pm_aload_n dX12_would_78 rfl rfl ?_
                refine pm_get fl_RX12_173_12 dX12_would_79 rfl rfl ?_
                refine pm_goto (tgt := 102) dX12_would_82 (by decide) ?_
                refine pm_iret dX12_would_102 rfl rfl rfl ?_
                exact th_r ((if_neg c_64).trans (if_pos c_75)) (hQ (upd (upd (upd (upd (upd s 21 sd2) 22 (nI k2)) 23 tg2) 24 ca2) 25 cb2))
            · refine pm_iload dX12_would_67 rfl ?_
              refine pm_goto (tgt := 102) dX12_would_69 (by decide) ?_
              refine pm_iret dX12_would_102 rfl rfl rfl ?_
              exact th_r (if_pos c_64) (hQ (upd (upd (upd (upd (upd s 21 sd2) 22 (nI k2)) 23 tg2) 24 ca2) 25 cb2))
          · refine pm_bipush (v := (-103)) dX12_would_50 (by decide) ?_
            refine pm_iret dX12_would_52 rfl rfl rfl ?_
            rw [if_neg (fun z => c_47 z.2)] at hQ
            exact hQ s
      · refine pm_if_ne (tgt := 32) dX12_would_26 (by decide) (fun c_26 => absurd (rfl) c_26) (fun c_26 => ?_)
        refine pm_bipush (v := (-102)) dX12_would_29 (by decide) ?_
        refine pm_iret dX12_would_31 rfl rfl rfl ?_
        rw [if_pos (Or.inr u)] at hQ
        exact hQ s
  · rw [th_wouldA, if_neg (th_prf h8 hn)] at hQ
    refine pm_if_ne (tgt := 12) dX12_would_6 (by decide) (fun c_6 => absurd (rfl) c_6) (fun c_6 => ?_)
    refine pm_bipush (v := (-101)) dX12_would_9 (by decide) ?_
    refine pm_iret dX12_would_11 rfl rfl rfl ?_
    exact hQ s

set_option maxHeartbeats 600000 in
set_option maxRecDepth 100000 in
theorem c_X11_fight {l : Launch} {G : pm_G} {ad : Nat → Nat → Nat} {S : Nat → Nat} {A : Nat → Nat → Int32} {X : Nat → Int32} {Y : Nat → Nat → Int32} {F : Nat → Int64} {Hd Cs : Nat → Option Nat} {m : List pm_A} {Q : pm_T} {x y z : Int32} (hI : th_I S A) (hQ : ∀ X2, Q ad (some (.int (th_fightA S A x y z))) (th_cw ad S (th_fightT S A x y z) X2 Y F Hd Cs m)) : pm_C l G m_X11_fight [.ref (ad 0 0), .int x, .int y, .int z] ad (th_cw ad S A X Y F Hd Cs m) Q := by
  have h8 := hI.2.2.2.2.1.1
  have h3 := hI.2.1.1
  refine pm_met (by decide) (Nat.le_of_ble_eq_true rfl) ?_
  refine pm_aload_n dX11_fight_0 rfl rfl ?_
  refine pm_iload_n dX11_fight_1 rfl rfl ?_
  refine pm_callV (M2 := m_X11_nutOf) (As := [_]) ok_X11_nutOf (ci := 11) rfl kw_545 kw_547 kw_5 dX11_fight_2 rfl rfl rfl (Nat.le_of_ble_eq_true rfl) ⟨⟨Nat.le_of_ble_eq_true rfl, Nat.le_of_ble_eq_true rfl⟩, Nat.le_of_ble_eq_true rfl, Nat.le_of_ble_eq_true rfl⟩ ?_
  refine c_X11_nutOf h8 (fun i hi e => ?_) (fun hn => ?_)
  · subst e
    obtain ⟨⟨ki, hki, eki⟩, ⟨si, hsi, esi⟩, -⟩ := th_nk hI hi
    have hwi : pm_get? (th_cw ad S A X Y F Hd Cs m) 2 i = some (.inr (pm_kc (th_n (A 6 i)), th_nf ad A Y i)) := th_nt_get hi
    rw [eki, th_n_nI (by omega)] at hwi
    refine pm_astore (lv2 := [(4, _), (0, _), (1, _), (2, _), (3, _)]) dX11_fight_5 (Nat.le_of_ble_eq_true rfl) rfl ?_
    refine pm_aload_n dX11_fight_7 rfl rfl ?_
    refine pm_iload_n dX11_fight_8 rfl rfl ?_
    refine pm_callV (M2 := m_X11_nutOf) (As := [_]) ok_X11_nutOf (ci := 11) rfl kw_545 kw_547 kw_5 dX11_fight_9 rfl rfl rfl (Nat.le_of_ble_eq_true rfl) ⟨⟨Nat.le_of_ble_eq_true rfl, Nat.le_of_ble_eq_true rfl⟩, Nat.le_of_ble_eq_true rfl, Nat.le_of_ble_eq_true rfl⟩ ?_
    refine c_X11_nutOf h8 (fun j hj e => ?_) (fun hn2 => ?_)
    · subst e
      obtain ⟨⟨kj, hkj, ekj⟩, ⟨sj, hsj, esj⟩, -⟩ := th_nk hI hj
      have hwj : pm_get? (th_cw ad S A X Y F Hd Cs m) 2 j = some (.inr (pm_kc (th_n (A 6 j)), th_nf ad A Y j)) := th_nt_get hj
      rw [ekj, th_n_nI (by omega)] at hwj
      refine pm_astore (lv2 := [(5, _), (4, _), (0, _), (1, _), (2, _), (3, _)]) dX11_fight_12 (Nat.le_of_ble_eq_true rfl) rfl ?_
      refine pm_aload dX11_fight_14 rfl ?_
      refine pm_ifnull dX11_fight_16 ?_
      refine pm_aload dX11_fight_19 rfl ?_
      refine pm_ifnull dX11_fight_21 ?_
      refine pm_aload dX11_fight_24 rfl ?_
      refine pm_aload dX11_fight_26 rfl ?_
      refine pm_inj hwi hwj (fun hadd => ?_)
      refine pm_acmp_ne (tgt := 34) dX11_fight_28 (by decide) (fun c_28 => ?_) (fun c_28 => ?_)
      · have hne : i ≠ j := fun e => c_28 (by rw [e])
        rw [th_fightA, th_fightT, if_pos (th_prt h8 hi hj hne), if_pos (th_prt h8 hi hj hne), th_n_nI (show i < 2 ^ 31 by omega), th_n_nI (show j < 2 ^ 31 by omega)] at hQ
        refine pm_iload_n dX11_fight_34 rfl rfl ?_
        refine pm_if_ge (tgt := 41) dX11_fight_35 (by decide) (fun c_35 => ?_) (fun c_35 => ?_)
        · rw [if_neg (Int32.not_lt.mpr c_35), if_neg (Int32.not_lt.mpr c_35)] at hQ
          refine pm_aload dX11_fight_41 rfl ?_
          refine pm_get (fn_RX11_127 _) dX11_fight_43 hwi rfl ?_
          refine pm_if_ne (tgt := 57) dX11_fight_46 (by decide) (fun c_46 => ?_) (fun c_46 => ?_)
          · refine pm_bipush (v := (-103)) dX11_fight_57 (by decide) ?_
            refine pm_iret dX11_fight_59 rfl rfl rfl ?_
            rw [if_neg (fun z => c_46 z.1), if_neg (fun z => c_46 z.1)] at hQ
            exact hQ X
          · refine pm_aload dX11_fight_49 rfl ?_
            refine pm_get (fn_RX11_127 _) dX11_fight_51 hwj rfl ?_
            refine pm_if_eq (tgt := 60) dX11_fight_54 (by decide) (fun c_54 => ?_) (fun c_54 => ?_)
            · refine pm_aload_n dX11_fight_60 rfl rfl ?_
              refine pm_get fl_RX11_31_11 dX11_fight_61 rfl rfl ?_
              refine pm_aload dX11_fight_64 rfl ?_
              refine pm_aload dX11_fight_66 rfl ?_
              refine pm_iload_n dX11_fight_68 rfl rfl ?_
              refine pm_callV (M2 := m_X1_strikeOut) (As := [_, _, _]) ok_X1_strikeOut (ci := 1) rfl kw_621 kw_622 kw_623 dX11_fight_69 rfl rfl rfl (Nat.le_of_ble_eq_true rfl) ⟨⟨Nat.le_of_ble_eq_true rfl, Nat.le_of_ble_eq_true rfl⟩, Nat.le_of_ble_eq_true rfl, Nat.le_of_ble_eq_true rfl⟩ ?_
              rw [if_pos ⟨c_46, c_54⟩, if_pos ⟨c_46, c_54⟩] at hQ
              refine c_X1_strikeOut (A := A) (Y := Y) (ka := ki) (kb := kj) (sa := si) (sb := sj) (by omega) (by omega) hne hwi hwj (by omega) (by omega) esi esj (th_sc_get hsi) (th_sc_get hsj) ?_
              unfold th_BQ
              generalize hr : th_ft (pm_hd ki (A 8 i)) (pm_hd kj (A 8 j)) (A 4 si) (A 4 sj) (decide (i < j)) 50 0 true z 0 (A 12 i) (A 12 j) = r
              obtain ⟨wn, sd2, k2, tg2, ca2, cb2⟩ := r
              have hfr : th_fr A i j z = (wn, sd2, k2, tg2, ca2, cb2) := by
                unfold th_fr
                rw [eki, ekj, esi, esj, th_n_nI (show ki < 2 ^ 31 by omega), th_n_nI (show kj < 2 ^ 31 by omega), th_n_nI (show si < 2 ^ 31 by omega), th_n_nI (show sj < 2 ^ 31 by omega)]
                exact hr
              show pm_W _ _ _ _ _ _ _ _ _ _ _
              dsimp only
              rw [hfr] at hQ
              unfold th_fA at hQ
              rcases th_three wn with w0 | w0 | w0
              · rw [th_wn0 w0]
                rw [th_wn0 w0, if_pos w0] at hQ
                refine pm_aload dX11_fight_72 rfl ?_
                refine pm_aload_n dX11_fight_74 rfl rfl ?_
                refine pm_get fl_RX11_31_11 dX11_fight_75 rfl rfl ?_
                refine pm_get fl_RX11_139_1 dX11_fight_78 rfl rfl ?_
                refine pm_put (w2 := (_, _, _, _, _, _, _, _, _)) (fn_RX11_142 _) (fpn_6 _) dX11_fight_81 hwi rfl rfl (Nat.le_of_ble_eq_true rfl) rfl ?_
                refine pm_aload dX11_fight_84 rfl ?_
                refine pm_aload_n dX11_fight_86 rfl rfl ?_
                refine pm_get fl_RX11_31_11 dX11_fight_87 rfl rfl ?_
                refine pm_get fl_RX11_145_1 dX11_fight_90 rfl rfl ?_
                refine pm_put (w2 := (_, _, _, _, _, _, _, _, _)) (fn_RX11_142 _) (fpn_6 _) dX11_fight_93 (show pm_get? _ 2 j = _ from (if_neg (fun e => hne e.symm)).trans hwj) rfl rfl (Nat.le_of_ble_eq_true rfl) rfl ?_
                refine th_pw2 (th_g2_cr hi hj hne (by rw [eki]; exact th_n_nI (by omega)) (by rw [ekj]; exact th_n_nI (by omega))) ?_
                have hwi2 : pm_get? (th_cw ad S (th_cr A i j ca2 cb2) X Y F Hd Cs m) 2 i = some (.inr (pm_kc (th_n (A 6 i)), th_nf ad (th_cr A i j ca2 cb2) Y i)) := th_nt_get hi
                have hwj2 : pm_get? (th_cw ad S (th_cr A i j ca2 cb2) X Y F Hd Cs m) 2 j = some (.inr (pm_kc (th_n (A 6 j)), th_nf ad (th_cr A i j ca2 cb2) Y j)) := th_nt_get hj
                rw [eki, th_n_nI (by omega)] at hwi2
                rw [ekj, th_n_nI (by omega)] at hwj2
                refine pm_aload_n dX11_fight_96 rfl rfl ?_
                refine pm_get fl_RX11_31_11 dX11_fight_97 rfl rfl ?_
                refine pm_get fl_RX11_148_1 dX11_fight_100 rfl rfl ?_
                refine pm_aload dX11_fight_103 rfl ?_
                refine pm_get (fn_RX11_114 _) dX11_fight_105 hwi2 rfl ?_
                refine pm_icmp_ne (tgt := 126) dX11_fight_108 (by decide) (fun c_108 => ?_) (fun c_108 => absurd c_108 (fun e => th_nm1 (n := i) (by omega) e.symm))
                refine pm_aload_n dX11_fight_126 rfl rfl ?_
                refine pm_get fl_RX11_31_11 dX11_fight_127 rfl rfl ?_
                refine pm_get fl_RX11_148_1 dX11_fight_130 rfl rfl ?_
                refine pm_aload dX11_fight_133 rfl ?_
                refine pm_get (fn_RX11_114 _) dX11_fight_135 hwj2 rfl ?_
                refine pm_icmp_ne (tgt := 153) dX11_fight_138 (by decide) (fun c_138 => ?_) (fun c_138 => absurd c_138 (fun e => th_nm1 (n := j) (by omega) e.symm))
                refine pm_aload_n dX11_fight_153 rfl rfl ?_
                refine pm_get fl_RX11_31_11 dX11_fight_154 rfl rfl ?_
                refine pm_get fl_RX11_148_1 dX11_fight_157 rfl rfl ?_
                refine pm_iret dX11_fight_160 rfl rfl rfl ?_
                exact hQ (th_bx X (-1) ca2 cb2 sd2 (nI k2) tg2)
              · rw [th_wn1 w0]
                rw [th_wn1 w0, if_neg (by omega), if_pos w0] at hQ
                refine pm_aload dX11_fight_72 rfl ?_
                refine pm_aload_n dX11_fight_74 rfl rfl ?_
                refine pm_get fl_RX11_31_11 dX11_fight_75 rfl rfl ?_
                refine pm_get fl_RX11_139_1 dX11_fight_78 rfl rfl ?_
                refine pm_put (w2 := (_, _, _, _, _, _, _, _, _)) (fn_RX11_142 _) (fpn_6 _) dX11_fight_81 hwi rfl rfl (Nat.le_of_ble_eq_true rfl) rfl ?_
                refine pm_aload dX11_fight_84 rfl ?_
                refine pm_aload_n dX11_fight_86 rfl rfl ?_
                refine pm_get fl_RX11_31_11 dX11_fight_87 rfl rfl ?_
                refine pm_get fl_RX11_145_1 dX11_fight_90 rfl rfl ?_
                refine pm_put (w2 := (_, _, _, _, _, _, _, _, _)) (fn_RX11_142 _) (fpn_6 _) dX11_fight_93 (show pm_get? _ 2 j = _ from (if_neg (fun e => hne e.symm)).trans hwj) rfl rfl (Nat.le_of_ble_eq_true rfl) rfl ?_
                refine th_pw2 (th_g2_cr hi hj hne (by rw [eki]; exact th_n_nI (by omega)) (by rw [ekj]; exact th_n_nI (by omega))) ?_
                have hwi2 : pm_get? (th_cw ad S (th_cr A i j ca2 cb2) X Y F Hd Cs m) 2 i = some (.inr (pm_kc (th_n (A 6 i)), th_nf ad (th_cr A i j ca2 cb2) Y i)) := th_nt_get hi
                have hwj2 : pm_get? (th_cw ad S (th_cr A i j ca2 cb2) X Y F Hd Cs m) 2 j = some (.inr (pm_kc (th_n (A 6 j)), th_nf ad (th_cr A i j ca2 cb2) Y j)) := th_nt_get hj
                rw [eki, th_n_nI (by omega)] at hwi2
                rw [ekj, th_n_nI (by omega)] at hwj2
                refine pm_aload_n dX11_fight_96 rfl rfl ?_
                refine pm_get fl_RX11_31_11 dX11_fight_97 rfl rfl ?_
                refine pm_get fl_RX11_148_1 dX11_fight_100 rfl rfl ?_
                refine pm_aload dX11_fight_103 rfl ?_
                refine pm_get (fn_RX11_114 _) dX11_fight_105 hwi2 rfl ?_
                refine pm_icmp_ne (tgt := 126) dX11_fight_108 (by decide) (fun c_108 => absurd (rfl) c_108) (fun c_108 => ?_)
                refine pm_aload dX11_fight_111 rfl ?_
                refine pm_aload dX11_fight_113 rfl ?_
                refine pm_aload_n dX11_fight_115 rfl rfl ?_
                refine pm_get fl_RX11_60_11 dX11_fight_116 rfl rfl ?_
                refine cn_RX11_131 (M := m_X11_fight) (As := [_, _]) dX11_fight_119 (show pm_get? _ 2 i = _ from hwi2) rfl (Nat.le_of_ble_eq_true rfl) ⟨⟨Nat.le_of_ble_eq_true rfl, Nat.le_of_ble_eq_true rfl⟩, Nat.le_of_ble_eq_true rfl, Nat.le_of_ble_eq_true rfl⟩ ?_
                refine c_X4_breaks (A := th_cr A i j ca2 cb2) (X := (th_bx X (nI i) ca2 cb2 sd2 (nI k2) tg2)) (th_I_cr hI hi hj) hi hj hne eki hki ekj hkj ?_
                refine pm_pop dX11_fight_122 rfl ?_
                refine pm_goto (tgt := 153) dX11_fight_123 (by decide) ?_
                refine pm_aload_n dX11_fight_153 rfl rfl ?_
                refine pm_get fl_RX11_31_11 dX11_fight_154 rfl rfl ?_
                refine pm_get fl_RX11_148_1 dX11_fight_157 rfl rfl ?_
                refine pm_iret dX11_fight_160 rfl rfl rfl ?_
                exact hQ (th_bx X (nI i) ca2 cb2 sd2 (nI k2) tg2)
              · rw [th_wn2 w0]
                rw [th_wn2 w0, if_neg (by omega), if_neg (by omega)] at hQ
                refine pm_aload dX11_fight_72 rfl ?_
                refine pm_aload_n dX11_fight_74 rfl rfl ?_
                refine pm_get fl_RX11_31_11 dX11_fight_75 rfl rfl ?_
                refine pm_get fl_RX11_139_1 dX11_fight_78 rfl rfl ?_
                refine pm_put (w2 := (_, _, _, _, _, _, _, _, _)) (fn_RX11_142 _) (fpn_6 _) dX11_fight_81 hwi rfl rfl (Nat.le_of_ble_eq_true rfl) rfl ?_
                refine pm_aload dX11_fight_84 rfl ?_
                refine pm_aload_n dX11_fight_86 rfl rfl ?_
                refine pm_get fl_RX11_31_11 dX11_fight_87 rfl rfl ?_
                refine pm_get fl_RX11_145_1 dX11_fight_90 rfl rfl ?_
                refine pm_put (w2 := (_, _, _, _, _, _, _, _, _)) (fn_RX11_142 _) (fpn_6 _) dX11_fight_93 (show pm_get? _ 2 j = _ from (if_neg (fun e => hne e.symm)).trans hwj) rfl rfl (Nat.le_of_ble_eq_true rfl) rfl ?_
                refine th_pw2 (th_g2_cr hi hj hne (by rw [eki]; exact th_n_nI (by omega)) (by rw [ekj]; exact th_n_nI (by omega))) ?_
                have hwi2 : pm_get? (th_cw ad S (th_cr A i j ca2 cb2) X Y F Hd Cs m) 2 i = some (.inr (pm_kc (th_n (A 6 i)), th_nf ad (th_cr A i j ca2 cb2) Y i)) := th_nt_get hi
                have hwj2 : pm_get? (th_cw ad S (th_cr A i j ca2 cb2) X Y F Hd Cs m) 2 j = some (.inr (pm_kc (th_n (A 6 j)), th_nf ad (th_cr A i j ca2 cb2) Y j)) := th_nt_get hj
                rw [eki, th_n_nI (by omega)] at hwi2
                rw [ekj, th_n_nI (by omega)] at hwj2
                refine pm_aload_n dX11_fight_96 rfl rfl ?_
                refine pm_get fl_RX11_31_11 dX11_fight_97 rfl rfl ?_
                refine pm_get fl_RX11_148_1 dX11_fight_100 rfl rfl ?_
                refine pm_aload dX11_fight_103 rfl ?_
                refine pm_get (fn_RX11_114 _) dX11_fight_105 hwi2 rfl ?_
                refine pm_icmp_ne (tgt := 126) dX11_fight_108 (by decide) (fun c_108 => ?_) (fun c_108 => absurd c_108 (fun e => hne ((nI_eq (by omega) (by omega)).mp e).symm))
                refine pm_aload_n dX11_fight_126 rfl rfl ?_
                refine pm_get fl_RX11_31_11 dX11_fight_127 rfl rfl ?_
                refine pm_get fl_RX11_148_1 dX11_fight_130 rfl rfl ?_
                refine pm_aload dX11_fight_133 rfl ?_
                refine pm_get (fn_RX11_114 _) dX11_fight_135 hwj2 rfl ?_
                refine pm_icmp_ne (tgt := 153) dX11_fight_138 (by decide) (fun c_138 => absurd (rfl) c_138) (fun c_138 => ?_)
                refine pm_aload dX11_fight_141 rfl ?_
                refine pm_aload dX11_fight_143 rfl ?_
                refine pm_aload_n dX11_fight_145 rfl rfl ?_
                refine pm_get fl_RX11_60_11 dX11_fight_146 rfl rfl ?_
                refine cn_RX11_131 (M := m_X11_fight) (As := [_, _]) dX11_fight_149 (show pm_get? _ 2 j = _ from hwj2) rfl (Nat.le_of_ble_eq_true rfl) ⟨⟨Nat.le_of_ble_eq_true rfl, Nat.le_of_ble_eq_true rfl⟩, Nat.le_of_ble_eq_true rfl, Nat.le_of_ble_eq_true rfl⟩ ?_
                refine c_X4_breaks (A := th_cr A i j ca2 cb2) (X := (th_bx X (nI j) ca2 cb2 sd2 (nI k2) tg2)) (th_I_cr hI hi hj) hj hi (fun e => hne e.symm) ekj hkj eki hki ?_
                refine pm_pop dX11_fight_152 rfl ?_
                refine pm_aload_n dX11_fight_153 rfl rfl ?_
                refine pm_get fl_RX11_31_11 dX11_fight_154 rfl rfl ?_
                refine pm_get fl_RX11_148_1 dX11_fight_157 rfl rfl ?_
                refine pm_iret dX11_fight_160 rfl rfl rfl ?_
                exact hQ (th_bx X (nI j) ca2 cb2 sd2 (nI k2) tg2)
            · refine pm_bipush (v := (-103)) dX11_fight_57 (by decide) ?_
              refine pm_iret dX11_fight_59 rfl rfl rfl ?_
              rw [if_neg (fun z => c_54 z.2), if_neg (fun z => c_54 z.2)] at hQ
              exact hQ X
        · refine pm_bipush (v := (-102)) dX11_fight_38 (by decide) ?_
          refine pm_iret dX11_fight_40 rfl rfl rfl ?_
          rw [if_pos (Int32.not_le.mp c_35), if_pos (Int32.not_le.mp c_35)] at hQ
          exact hQ X
      · refine pm_bipush (v := (-101)) dX11_fight_31 (by decide) ?_
        refine pm_iret dX11_fight_33 rfl rfl rfl ?_
        rw [th_fightA, th_fightT, if_neg (fun z => z.2 (by rw [hadd.mp c_28])), if_neg (fun z => z.2 (by rw [hadd.mp c_28]))] at hQ
        exact hQ X
    · refine pm_nstore (lv2 := [(5, _), (4, _), (0, _), (1, _), (2, _), (3, _)]) dX11_fight_12 (Nat.le_of_ble_eq_true rfl) rfl ?_
      refine pm_aload dX11_fight_14 rfl ?_
      refine pm_ifnull dX11_fight_16 ?_
      refine pm_nload dX11_fight_19 rfl ?_
      refine pm_ifnullN (tgt := 31) dX11_fight_21 (by decide) ?_
      refine pm_bipush (v := (-101)) dX11_fight_31 (by decide) ?_
      refine pm_iret dX11_fight_33 rfl rfl rfl ?_
      rw [th_fightA, th_fightT, if_neg (fun z => th_okf hn2 (by omega) z.1.2), if_neg (fun z => th_okf hn2 (by omega) z.1.2)] at hQ
      exact hQ X
  · refine pm_nstore (lv2 := [(4, _), (0, _), (1, _), (2, _), (3, _)]) dX11_fight_5 (Nat.le_of_ble_eq_true rfl) rfl ?_
    refine pm_aload_n dX11_fight_7 rfl rfl ?_
    refine pm_iload_n dX11_fight_8 rfl rfl ?_
    refine pm_callV (M2 := m_X11_nutOf) (As := [_]) ok_X11_nutOf (ci := 11) rfl kw_545 kw_547 kw_5 dX11_fight_9 rfl rfl rfl (Nat.le_of_ble_eq_true rfl) ⟨⟨Nat.le_of_ble_eq_true rfl, Nat.le_of_ble_eq_true rfl⟩, Nat.le_of_ble_eq_true rfl, Nat.le_of_ble_eq_true rfl⟩ ?_
    refine c_X11_nutOf h8 (fun j hj e => ?_) (fun hn2 => ?_)
    · subst e
      obtain ⟨⟨kj, hkj, ekj⟩, ⟨sj, hsj, esj⟩, -⟩ := th_nk hI hj
      have hwj : pm_get? (th_cw ad S A X Y F Hd Cs m) 2 j = some (.inr (pm_kc (th_n (A 6 j)), th_nf ad A Y j)) := th_nt_get hj
      rw [ekj, th_n_nI (by omega)] at hwj
      refine pm_astore (lv2 := [(5, _), (4, _), (0, _), (1, _), (2, _), (3, _)]) dX11_fight_12 (Nat.le_of_ble_eq_true rfl) rfl ?_
      refine pm_nload dX11_fight_14 rfl ?_
      refine pm_ifnullN (tgt := 31) dX11_fight_16 (by decide) ?_
      refine pm_bipush (v := (-101)) dX11_fight_31 (by decide) ?_
      refine pm_iret dX11_fight_33 rfl rfl rfl ?_
      rw [th_fightA, th_fightT, if_neg (fun z => th_okf hn (by omega) z.1.1), if_neg (fun z => th_okf hn (by omega) z.1.1)] at hQ
      exact hQ X
    · refine pm_nstore (lv2 := [(5, _), (4, _), (0, _), (1, _), (2, _), (3, _)]) dX11_fight_12 (Nat.le_of_ble_eq_true rfl) rfl ?_
      refine pm_nload dX11_fight_14 rfl ?_
      refine pm_ifnullN (tgt := 31) dX11_fight_16 (by decide) ?_
      refine pm_bipush (v := (-101)) dX11_fight_31 (by decide) ?_
      refine pm_iret dX11_fight_33 rfl rfl rfl ?_
      rw [th_fightA, th_fightT, if_neg (fun z => th_okf hn (by omega) z.1.1), if_neg (fun z => th_okf hn (by omega) z.1.1)] at hQ
      exact hQ X

set_option maxHeartbeats 600000 in
set_option maxRecDepth 100000 in
theorem c_X11_would {l : Launch} {G : pm_G} {ad : Nat → Nat → Nat} {S : Nat → Nat} {A : Nat → Nat → Int32} {X : Nat → Int32} {Y : Nat → Nat → Int32} {F : Nat → Int64} {Hd Cs : Nat → Option Nat} {m : List pm_A} {Q : pm_T} {x y z q : Int32} (hI : th_I S A) (hQ : ∀ X2, Q ad (some (.int (th_wouldA S A x y z q))) (th_cw ad S A X2 Y F Hd Cs m)) : pm_C l G m_X11_would [.ref (ad 0 0), .int x, .int y, .int z, .int q] ad (th_cw ad S A X Y F Hd Cs m) Q := by
  have h8 := hI.2.2.2.2.1.1
  have h3 := hI.2.1.1
  refine pm_met (by decide) (Nat.le_of_ble_eq_true rfl) ?_
  refine pm_aload_n dX11_would_0 rfl rfl ?_
  refine pm_iload_n dX11_would_1 rfl rfl ?_
  refine pm_callV (M2 := m_X11_nutOf) (As := [_]) ok_X11_nutOf (ci := 11) rfl kw_545 kw_547 kw_5 dX11_would_2 rfl rfl rfl (Nat.le_of_ble_eq_true rfl) ⟨⟨Nat.le_of_ble_eq_true rfl, Nat.le_of_ble_eq_true rfl⟩, Nat.le_of_ble_eq_true rfl, Nat.le_of_ble_eq_true rfl⟩ ?_
  refine c_X11_nutOf h8 (fun i hi e => ?_) (fun hn => ?_)
  · subst e
    obtain ⟨⟨ki, hki, eki⟩, ⟨si, hsi, esi⟩, -⟩ := th_nk hI hi
    have hwi : pm_get? (th_cw ad S A X Y F Hd Cs m) 2 i = some (.inr (pm_kc (th_n (A 6 i)), th_nf ad A Y i)) := th_nt_get hi
    rw [eki, th_n_nI (by omega)] at hwi
    refine pm_astore (lv2 := [(5, _), (0, _), (1, _), (2, _), (3, _), (4, _)]) dX11_would_5 (Nat.le_of_ble_eq_true rfl) rfl ?_
    refine pm_aload_n dX11_would_7 rfl rfl ?_
    refine pm_iload_n dX11_would_8 rfl rfl ?_
    refine pm_callV (M2 := m_X11_nutOf) (As := [_]) ok_X11_nutOf (ci := 11) rfl kw_545 kw_547 kw_5 dX11_would_9 rfl rfl rfl (Nat.le_of_ble_eq_true rfl) ⟨⟨Nat.le_of_ble_eq_true rfl, Nat.le_of_ble_eq_true rfl⟩, Nat.le_of_ble_eq_true rfl, Nat.le_of_ble_eq_true rfl⟩ ?_
    refine c_X11_nutOf h8 (fun j hj e => ?_) (fun hn2 => ?_)
    · subst e
      obtain ⟨⟨kj, hkj, ekj⟩, ⟨sj, hsj, esj⟩, -⟩ := th_nk hI hj
      have hwj : pm_get? (th_cw ad S A X Y F Hd Cs m) 2 j = some (.inr (pm_kc (th_n (A 6 j)), th_nf ad A Y j)) := th_nt_get hj
      rw [ekj, th_n_nI (by omega)] at hwj
      refine pm_astore (lv2 := [(6, _), (5, _), (0, _), (1, _), (2, _), (3, _), (4, _)]) dX11_would_12 (Nat.le_of_ble_eq_true rfl) rfl ?_
      refine pm_aload dX11_would_14 rfl ?_
      refine pm_ifnull dX11_would_16 ?_
      refine pm_aload dX11_would_19 rfl ?_
      refine pm_ifnull dX11_would_21 ?_
      refine pm_aload dX11_would_24 rfl ?_
      refine pm_aload dX11_would_26 rfl ?_
      refine pm_inj hwi hwj (fun hadd => ?_)
      refine pm_acmp_ne (tgt := 34) dX11_would_28 (by decide) (fun c_28 => ?_) (fun c_28 => ?_)
      · have hne : i ≠ j := fun e => c_28 (by rw [e])
        rw [th_wouldA, if_pos (th_prt h8 hi hj hne), th_n_nI (show i < 2 ^ 31 by omega), th_n_nI (show j < 2 ^ 31 by omega)] at hQ
        refine pm_iload_n dX11_would_34 rfl rfl ?_
        refine pm_if_lt (tgt := 48) dX11_would_35 (by decide) (fun c_35 => ?_) (fun c_35 => ?_)
        · refine pm_bipush (v := (-102)) dX11_would_48 (by decide) ?_
          refine pm_iret dX11_would_50 rfl rfl rfl ?_
          rw [if_pos (Or.inl c_35)] at hQ
          exact hQ X
        · refine pm_iload dX11_would_38 rfl ?_
          refine pm_iconst (v := 0) dX11_would_40 (by decide) ?_
          refine pm_iconst (v := 3) dX11_would_41 (by decide) ?_
          refine pm_callS (M2 := m_X11_isOutside) (As := [_, _, _]) ok_X11_isOutside kw_361 kw_362 dX11_would_42 rfl rfl (Nat.le_of_ble_eq_true rfl) ⟨⟨Nat.le_of_ble_eq_true rfl, Nat.le_of_ble_eq_true rfl⟩, Nat.le_of_ble_eq_true rfl, Nat.le_of_ble_eq_true rfl⟩ ?_
          refine c_X11_isOutside (fun u => ?_) (fun u v => ?_)
          · refine pm_if_eq (tgt := 51) dX11_would_45 (by decide) (fun c_45 => absurd c_45 (by decide)) (fun c_45 => ?_)
            refine pm_bipush (v := (-102)) dX11_would_48 (by decide) ?_
            refine pm_iret dX11_would_50 rfl rfl rfl ?_
            rw [if_pos (Or.inr u)] at hQ
            exact hQ X
          · refine pm_if_eq (tgt := 51) dX11_would_45 (by decide) (fun c_45 => ?_) (fun c_45 => absurd (rfl) c_45)
            rw [if_neg (fun h => h.elim c_35 (fun h => h ⟨u, v⟩))] at hQ
            refine pm_aload dX11_would_51 rfl ?_
            refine pm_get (fn_RX11_127 _) dX11_would_53 hwi rfl ?_
            refine pm_if_ne (tgt := 67) dX11_would_56 (by decide) (fun c_56 => ?_) (fun c_56 => ?_)
            · refine pm_bipush (v := (-103)) dX11_would_67 (by decide) ?_
              refine pm_iret dX11_would_69 rfl rfl rfl ?_
              rw [if_neg (fun z => c_56 z.1)] at hQ
              exact hQ X
            · refine pm_aload dX11_would_59 rfl ?_
              refine pm_get (fn_RX11_127 _) dX11_would_61 hwj rfl ?_
              refine pm_if_eq (tgt := 70) dX11_would_64 (by decide) (fun c_64 => ?_) (fun c_64 => ?_)
              · refine pm_aload_n dX11_would_70 rfl rfl ?_
                refine pm_get fl_RX11_31_11 dX11_would_71 rfl rfl ?_
                refine pm_aload dX11_would_74 rfl ?_
                refine pm_aload dX11_would_76 rfl ?_
                refine pm_iload_n dX11_would_78 rfl rfl ?_
                refine pm_callV (M2 := m_X1_strikeOut) (As := [_, _, _]) ok_X1_strikeOut (ci := 1) rfl kw_621 kw_622 kw_623 dX11_would_79 rfl rfl rfl (Nat.le_of_ble_eq_true rfl) ⟨⟨Nat.le_of_ble_eq_true rfl, Nat.le_of_ble_eq_true rfl⟩, Nat.le_of_ble_eq_true rfl, Nat.le_of_ble_eq_true rfl⟩ ?_
                rw [if_pos ⟨c_56, c_64⟩] at hQ
                refine c_X1_strikeOut (A := A) (Y := Y) (ka := ki) (kb := kj) (sa := si) (sb := sj) (by omega) (by omega) hne hwi hwj (by omega) (by omega) esi esj (th_sc_get hsi) (th_sc_get hsj) ?_
                unfold th_BQ
                generalize hr : th_ft (pm_hd ki (A 8 i)) (pm_hd kj (A 8 j)) (A 4 si) (A 4 sj) (decide (i < j)) 50 0 true z 0 (A 12 i) (A 12 j) = r
                obtain ⟨wn, sd2, k2, tg2, ca2, cb2⟩ := r
                have hfr : th_fr A i j z = (wn, sd2, k2, tg2, ca2, cb2) := by
                  unfold th_fr
                  rw [eki, ekj, esi, esj, th_n_nI (show ki < 2 ^ 31 by omega), th_n_nI (show kj < 2 ^ 31 by omega), th_n_nI (show si < 2 ^ 31 by omega), th_n_nI (show sj < 2 ^ 31 by omega)]
                  exact hr
                show pm_W _ _ _ _ _ _ _ _ _ _ _
                dsimp only
                rw [hfr] at hQ
                refine pm_aload_n dX11_would_82 rfl rfl ?_
                refine pm_get fl_RX11_31_11 dX11_would_83 rfl rfl ?_
                refine pm_iload dX11_would_86 rfl ?_
                refine pm_callV (M2 := m_X1_tell) (As := [_]) ok_X1_tell (ci := 1) rfl kw_646 kw_647 kw_648 dX11_would_88 rfl rfl rfl (Nat.le_of_ble_eq_true rfl) ⟨⟨Nat.le_of_ble_eq_true rfl, Nat.le_of_ble_eq_true rfl⟩, Nat.le_of_ble_eq_true rfl, Nat.le_of_ble_eq_true rfl⟩ ?_
                refine c_X1_tell ?_
                refine pm_iret dX11_would_91 rfl rfl rfl ?_
                exact hQ (th_bx X (th_wn i j wn) ca2 cb2 sd2 (nI k2) tg2)
              · refine pm_bipush (v := (-103)) dX11_would_67 (by decide) ?_
                refine pm_iret dX11_would_69 rfl rfl rfl ?_
                rw [if_neg (fun z => c_64 z.2)] at hQ
                exact hQ X
      · refine pm_bipush (v := (-101)) dX11_would_31 (by decide) ?_
        refine pm_iret dX11_would_33 rfl rfl rfl ?_
        rw [th_wouldA, if_neg (fun z => z.2 (by rw [hadd.mp c_28]))] at hQ
        exact hQ X
    · refine pm_nstore (lv2 := [(6, _), (5, _), (0, _), (1, _), (2, _), (3, _), (4, _)]) dX11_would_12 (Nat.le_of_ble_eq_true rfl) rfl ?_
      refine pm_aload dX11_would_14 rfl ?_
      refine pm_ifnull dX11_would_16 ?_
      refine pm_nload dX11_would_19 rfl ?_
      refine pm_ifnullN (tgt := 31) dX11_would_21 (by decide) ?_
      refine pm_bipush (v := (-101)) dX11_would_31 (by decide) ?_
      refine pm_iret dX11_would_33 rfl rfl rfl ?_
      rw [th_wouldA, if_neg (fun z => th_okf hn2 (by omega) z.1.2)] at hQ
      exact hQ X
  · refine pm_nstore (lv2 := [(5, _), (0, _), (1, _), (2, _), (3, _), (4, _)]) dX11_would_5 (Nat.le_of_ble_eq_true rfl) rfl ?_
    refine pm_aload_n dX11_would_7 rfl rfl ?_
    refine pm_iload_n dX11_would_8 rfl rfl ?_
    refine pm_callV (M2 := m_X11_nutOf) (As := [_]) ok_X11_nutOf (ci := 11) rfl kw_545 kw_547 kw_5 dX11_would_9 rfl rfl rfl (Nat.le_of_ble_eq_true rfl) ⟨⟨Nat.le_of_ble_eq_true rfl, Nat.le_of_ble_eq_true rfl⟩, Nat.le_of_ble_eq_true rfl, Nat.le_of_ble_eq_true rfl⟩ ?_
    refine c_X11_nutOf h8 (fun j hj e => ?_) (fun hn2 => ?_)
    · subst e
      obtain ⟨⟨kj, hkj, ekj⟩, ⟨sj, hsj, esj⟩, -⟩ := th_nk hI hj
      have hwj : pm_get? (th_cw ad S A X Y F Hd Cs m) 2 j = some (.inr (pm_kc (th_n (A 6 j)), th_nf ad A Y j)) := th_nt_get hj
      rw [ekj, th_n_nI (by omega)] at hwj
      refine pm_astore (lv2 := [(6, _), (5, _), (0, _), (1, _), (2, _), (3, _), (4, _)]) dX11_would_12 (Nat.le_of_ble_eq_true rfl) rfl ?_
      refine pm_nload dX11_would_14 rfl ?_
      refine pm_ifnullN (tgt := 31) dX11_would_16 (by decide) ?_
      refine pm_bipush (v := (-101)) dX11_would_31 (by decide) ?_
      refine pm_iret dX11_would_33 rfl rfl rfl ?_
      rw [th_wouldA, if_neg (fun z => th_okf hn (by omega) z.1.1)] at hQ
      exact hQ X
    · refine pm_nstore (lv2 := [(6, _), (5, _), (0, _), (1, _), (2, _), (3, _), (4, _)]) dX11_would_12 (Nat.le_of_ble_eq_true rfl) rfl ?_
      refine pm_nload dX11_would_14 rfl ?_
      refine pm_ifnullN (tgt := 31) dX11_would_16 (by decide) ?_
      refine pm_bipush (v := (-101)) dX11_would_31 (by decide) ?_
      refine pm_iret dX11_would_33 rfl rfl rfl ?_
      rw [th_wouldA, if_neg (fun z => th_okf hn (by omega) z.1.1)] at hQ
      exact hQ X

