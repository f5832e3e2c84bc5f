set_option maxHeartbeats 600000 in
set_option maxRecDepth 100000 in
theorem c_X1_draw {l : Launch} {G : pm_G} {ad : Nat → Nat → Nat} {a0 a3 a4 a5 a6 a8 : List pm_A} {a1 a2 : Nat → Option pm_A} {Q : pm_T} {w ca cb sd st tg d : Int32} (hd : 0 < d) (hQ : Q ad (some (.int (th_dr (th_nx sd) d))) (a0, a1, a2, a3, a4, a5, a6, [.inr (1, [.int w, .int ca, .int cb, .int (th_nx sd), .int st, .int tg])], a8)) : pm_C l G m_X1_draw [.ref (ad 7 0), .int d] ad (a0, a1, a2, a3, a4, a5, a6, [.inr (1, [.int w, .int ca, .int cb, .int sd, .int st, .int tg])], a8) Q := by
  refine pm_met (by decide) (Nat.le_of_ble_eq_true rfl) ?_
  refine pm_aload_n dX1_draw_0 rfl rfl ?_
  refine pm_ldc kw_629 dX1_draw_1 ?_
  refine pm_aload_n dX1_draw_3 rfl rfl ?_
  refine pm_get fl_RX1_26_1 dX1_draw_4 rfl rfl ?_
  refine pm_imul dX1_draw_7 ?_
  refine pm_sipush (v := 12345) dX1_draw_8 (by decide) ?_
  refine pm_iadd dX1_draw_11 ?_
  refine pm_ldc kw_630 dX1_draw_12 ?_
  refine pm_iand dX1_draw_14 ?_
  rw [show (1103515245 * sd + 12345) &&& 2147483647 = th_nx sd from rfl]
  refine pm_put (w2 := (_, _, _, _, _, _, _, [.inr (_, [_, _, _, _, _, _])], _)) fl_RX1_26_1 fp_1_3 dX1_draw_15 rfl rfl rfl (Nat.le_of_ble_eq_true rfl) rfl ?_
  refine pm_iload_n dX1_draw_18 rfl rfl ?_
  refine pm_if_gt (tgt := 26) dX1_draw_19 (by decide) (fun c_19 => ?_) (fun c_19 => absurd (hd) c_19)
  refine pm_aload_n dX1_draw_26 rfl rfl ?_
  refine pm_get fl_RX1_26_1 dX1_draw_27 rfl rfl ?_
  refine pm_ldc kw_631 dX1_draw_30 ?_
  refine pm_idiv dX1_draw_32 (by decide) ?_
  refine pm_iload_n dX1_draw_33 rfl rfl ?_
  refine pm_irem dX1_draw_34 (fun e => absurd hd (by rw [e]; decide)) ?_
  refine pm_iret dX1_draw_35 rfl rfl rfl ?_
  exact hQ

set_option maxHeartbeats 600000 in
set_option maxRecDepth 100000 in
theorem c_X1_nextStriker {l : Launch} {G : pm_G} {ad : Nat → Nat → Nat} {w : pm_V} {Q : pm_T} {A Y : Nat → Nat → Int32} {i j ki kj si : Nat} (hwi : pm_get? w 2 i = some (.inr (pm_kc ki, th_nf ad A Y i))) (hwj : pm_get? w 2 j = some (.inr (pm_kc kj, th_nf ad A Y j))) (es : A 7 i = nI si) (hs : si < 3) (hv : pm_get? w 1 si = some (.inr (10, th_sf A si))) (hQ : Q ad (some (.int (if A 4 si = 116 then nI i else if A 4 si = 111 then nI j else if nI j < nI i then nI j else nI i))) w) : pm_C l G m_X1_nextStriker [.ref (ad 2 i), .ref (ad 2 j)] ad w Q := by
  refine pm_met (by decide) (Nat.le_of_ble_eq_true rfl) ?_
  refine pm_aload_n dX1_nextStriker_0 rfl rfl ?_
  refine pm_get (fn_RX1_55 _) dX1_nextStriker_1 hwi rfl ?_
  rw [es, th_n_nI (by omega)]
  refine pm_get fl_RX1_59_10 dX1_nextStriker_4 hv rfl ?_
  refine pm_istore_n (lv2 := [(2, _), (0, _), (1, _)]) dX1_nextStriker_7 rfl (Nat.le_of_ble_eq_true rfl) rfl ?_
  refine pm_iload_n dX1_nextStriker_8 rfl rfl ?_
  refine pm_bipush (v := 116) dX1_nextStriker_9 (by decide) ?_
  refine pm_icmp_ne (tgt := 19) dX1_nextStriker_11 (by decide) (fun c_11 => ?_) (fun c_11 => ?_)
  · refine pm_iload_n dX1_nextStriker_19 rfl rfl ?_
    refine pm_bipush (v := 111) dX1_nextStriker_20 (by decide) ?_
    refine pm_icmp_ne (tgt := 32) dX1_nextStriker_22 (by decide) (fun c_22 => ?_) (fun c_22 => ?_)
    · refine pm_aload_n dX1_nextStriker_32 rfl rfl ?_
      refine pm_get (fn_RX1_43 _) dX1_nextStriker_33 hwi rfl ?_
      refine pm_aload_n dX1_nextStriker_36 rfl rfl ?_
      refine pm_get (fn_RX1_43 _) dX1_nextStriker_37 hwj rfl ?_
      refine pm_min kw_635 kw_372 kw_54 kw_373 (Nat.le_of_ble_eq_true rfl) (Nat.le_of_ble_eq_true rfl) (Nat.le_of_ble_eq_true rfl) (Nat.le_of_ble_eq_true rfl) dX1_nextStriker_40 ?_
      refine pm_iret dX1_nextStriker_43 rfl rfl rfl ?_
      exact th_r ((if_neg c_11).trans (if_neg c_22)) hQ
    · refine pm_aload_n dX1_nextStriker_25 rfl rfl ?_
      refine pm_get (fn_RX1_43 _) dX1_nextStriker_26 hwj rfl ?_
      refine pm_goto (tgt := 43) dX1_nextStriker_29 (by decide) ?_
      refine pm_iret dX1_nextStriker_43 rfl rfl rfl ?_
      exact th_r ((if_neg c_11).trans (if_pos c_22)) hQ
  · refine pm_aload_n dX1_nextStriker_14 rfl rfl ?_
    refine pm_get (fn_RX1_43 _) dX1_nextStriker_15 hwi rfl ?_
    refine pm_iret dX1_nextStriker_18 rfl rfl rfl ?_
    exact th_r (if_pos c_11) hQ

theorem th_cm_mm (v : Int32) : (if 1 < (if v < 95 then v else 95) then (if v < 95 then v else 95) else 1) = th_cm v := by
  rw [th_cm]
  by_cases h9 : v < 95
  · rw [if_pos h9]
    by_cases h1 : 1 < v
    · rw [if_pos h1, if_pos (Int32.le_of_lt h1), if_pos (Int32.le_of_lt h9)]
    · rw [if_neg h1]
      by_cases h2 : 1 ≤ v
      · rw [if_pos h2, if_pos (Int32.le_of_lt h9)]
        exact Int32.le_antisymm h2 (Int32.not_lt.mp h1)
      · rw [if_neg h2]
  · rw [if_neg h9, if_pos (by decide)]
    have h3 : (95 : Int32) ≤ v := Int32.not_lt.mp h9
    rw [if_pos (Int32.le_trans (by decide) h3)]
    by_cases h4 : v ≤ 95
    · rw [if_pos h4]
      exact Int32.le_antisymm h3 h4
    · rw [if_neg h4]
set_option maxHeartbeats 600000 in
set_option maxRecDepth 100000 in
theorem c_X1_strike_1 {l : Launch} {G : pm_G} {ad : Nat → Nat → Nat} {a0 a3 a4 a5 a6 a8 : List pm_A} {a1 a2 : Nat → Option pm_A} {A Y : Nat → Nat → Int32} {Q : pm_T} {w ca cb sd st tg : Int32} {i j ki kj : Nat} (hwi : a2 i = some (.inr (pm_kc ki, th_nf ad A Y i))) (hwj : a2 j = some (.inr (pm_kc kj, th_nf ad A Y j))) (h1 : th_dr (th_nx sd) 100 < th_cm (15 + 5 * (pm_hd ki (A 8 i) - pm_hd kj (A 8 j)) + 4 * cb) → Q ad none (a0, a1, a2, a3, a4, a5, a6, [.inr (1, [.int (nI i), .int ca, .int cb, .int (th_nx sd), .int st, .int tg])], a8)) (h0 : ¬ th_dr (th_nx sd) 100 < th_cm (15 + 5 * (pm_hd ki (A 8 i) - pm_hd kj (A 8 j)) + 4 * cb) → Q ad none (a0, a1, a2, a3, a4, a5, a6, [.inr (1, [.int w, .int ca, .int (cb + 1), .int (th_nx sd), .int st, .int tg])], a8)) : pm_C l G m_X1_strike [.ref (ad 7 0), .ref (ad 2 i), .ref (ad 2 j), .int 1] ad (a0, a1, a2, a3, a4, a5, a6, [.inr (1, [.int w, .int ca, .int cb, .int sd, .int st, .int tg])], a8) Q := by
  refine pm_met (by decide) (Nat.le_of_ble_eq_true rfl) ?_
  refine pm_iload_n dX1_strike_0 rfl rfl ?_
  refine pm_if_eq (tgt := 11) dX1_strike_1 (by decide) (fun c_1 => absurd c_1 (by decide)) (fun c_1 => ?_)
  refine pm_aload_n dX1_strike_4 rfl rfl ?_
  refine pm_get fl_RX1_23_1 dX1_strike_5 rfl rfl ?_
  refine pm_goto (tgt := 15) dX1_strike_8 (by decide) ?_
  refine pm_istore (lv2 := [(4, _), (0, _), (1, _), (2, _), (3, _)]) dX1_strike_15 (Nat.le_of_ble_eq_true rfl) rfl ?_
  refine pm_bipush (v := 15) dX1_strike_17 (by decide) ?_
  refine pm_iconst (v := 5) dX1_strike_19 (by decide) ?_
  refine pm_aload_n dX1_strike_20 rfl rfl ?_
  refine cn_RX1_70 (M := m_X1_strike) (st := []) dX1_strike_21 (show pm_get? _ 2 i = _ from hwi) rfl (Nat.le_of_ble_eq_true rfl) ⟨⟨Nat.le_of_ble_eq_true rfl, Nat.le_of_ble_eq_true rfl⟩, Nat.le_of_ble_eq_true rfl, Nat.le_of_ble_eq_true rfl⟩ ?_
  refine pm_aload_n dX1_strike_24 rfl rfl ?_
  refine cn_RX1_70 (M := m_X1_strike) (st := []) dX1_strike_25 (show pm_get? _ 2 j = _ from hwj) rfl (Nat.le_of_ble_eq_true rfl) ⟨⟨Nat.le_of_ble_eq_true rfl, Nat.le_of_ble_eq_true rfl⟩, Nat.le_of_ble_eq_true rfl, Nat.le_of_ble_eq_true rfl⟩ ?_
  refine pm_isub dX1_strike_28 ?_
  refine pm_imul dX1_strike_29 ?_
  refine pm_iadd dX1_strike_30 ?_
  refine pm_iconst (v := 4) dX1_strike_31 (by decide) ?_
  refine pm_iload dX1_strike_32 rfl ?_
  refine pm_imul dX1_strike_34 ?_
  refine pm_iadd dX1_strike_35 ?_
  refine pm_istore (lv2 := [(5, _), (4, _), (0, _), (1, _), (2, _), (3, _)]) dX1_strike_36 (Nat.le_of_ble_eq_true rfl) rfl ?_
  refine pm_aload_n dX1_strike_38 rfl rfl ?_
  refine pm_bipush (v := 100) dX1_strike_39 (by decide) ?_
  refine pm_callV (M2 := m_X1_draw) (As := [_]) ok_X1_draw (ci := 1) rfl kw_625 kw_627 kw_6 dX1_strike_41 rfl rfl rfl (Nat.le_of_ble_eq_true rfl) ⟨⟨Nat.le_of_ble_eq_true rfl, Nat.le_of_ble_eq_true rfl⟩, Nat.le_of_ble_eq_true rfl, Nat.le_of_ble_eq_true rfl⟩ ?_
  refine c_X1_draw (by decide) ?_
  refine pm_iconst (v := 1) dX1_strike_44 (by decide) ?_
  refine pm_bipush (v := 95) dX1_strike_45 (by decide) ?_
  refine pm_iload dX1_strike_47 rfl ?_
  refine pm_min kw_635 kw_372 kw_54 kw_373 (Nat.le_of_ble_eq_true rfl) (Nat.le_of_ble_eq_true rfl) (Nat.le_of_ble_eq_true rfl) (Nat.le_of_ble_eq_true rfl) dX1_strike_49 ?_
  refine pm_max kw_641 kw_369 kw_54 kw_370 (Nat.le_of_ble_eq_true rfl) (Nat.le_of_ble_eq_true rfl) (Nat.le_of_ble_eq_true rfl) (Nat.le_of_ble_eq_true rfl) dX1_strike_52 ?_
  rw [th_cm_mm]
  refine pm_icmp_ge (tgt := 69) dX1_strike_55 (by decide) (fun c_55 => ?_) (fun c_55 => ?_)
  · refine pm_iload_n dX1_strike_69 rfl rfl ?_
    refine pm_if_eq (tgt := 86) dX1_strike_70 (by decide) (fun c_70 => absurd c_70 (by decide)) (fun c_70 => ?_)
    refine pm_aload_n dX1_strike_73 rfl rfl ?_
    refine pm_dup dX1_strike_74 rfl ?_
    refine pm_get fl_RX1_23_1 dX1_strike_75 rfl rfl ?_
    refine pm_iconst (v := 1) dX1_strike_78 (by decide) ?_
    refine pm_iadd dX1_strike_79 ?_
    refine pm_put (w2 := (_, _, _, _, _, _, _, [.inr (_, [_, _, _, _, _, _])], _)) fl_RX1_23_1 fp_1_2 dX1_strike_80 rfl rfl rfl (Nat.le_of_ble_eq_true rfl) rfl ?_
    refine pm_goto (tgt := 96) dX1_strike_83 (by decide) ?_
    refine pm_vret dX1_strike_96 rfl rfl rfl ?_
    exact h0 (Int32.not_lt.mpr c_55)
  · refine pm_aload_n dX1_strike_58 rfl rfl ?_
    refine pm_aload_n dX1_strike_59 rfl rfl ?_
    refine pm_get (fn_RX1_43 _) dX1_strike_60 (show pm_get? _ 2 i = _ from hwi) rfl ?_
    refine pm_put (w2 := (_, _, _, _, _, _, _, [.inr (_, [_, _, _, _, _, _])], _)) fl_RX1_9_1 fp_1_0 dX1_strike_63 rfl rfl rfl (Nat.le_of_ble_eq_true rfl) rfl ?_
    refine pm_goto (tgt := 96) dX1_strike_66 (by decide) ?_
    refine pm_vret dX1_strike_96 rfl rfl rfl ?_
    exact h1 (Int32.not_le.mp c_55)

set_option maxHeartbeats 600000 in
set_option maxRecDepth 100000 in
theorem c_X1_strike_0 {l : Launch} {G : pm_G} {ad : Nat → Nat → Nat} {a0 a3 a4 a5 a6 a8 : List pm_A} {a1 a2 : Nat → Option pm_A} {A Y : Nat → Nat → Int32} {Q : pm_T} {w ca cb sd st tg : Int32} {i j ki kj : Nat} (hwi : a2 i = some (.inr (pm_kc ki, th_nf ad A Y i))) (hwj : a2 j = some (.inr (pm_kc kj, th_nf ad A Y j))) (h1 : th_dr (th_nx sd) 100 < th_cm (15 + 5 * (pm_hd ki (A 8 i) - pm_hd kj (A 8 j)) + 4 * ca) → Q ad none (a0, a1, a2, a3, a4, a5, a6, [.inr (1, [.int (nI i), .int ca, .int cb, .int (th_nx sd), .int st, .int tg])], a8)) (h0 : ¬ th_dr (th_nx sd) 100 < th_cm (15 + 5 * (pm_hd ki (A 8 i) - pm_hd kj (A 8 j)) + 4 * ca) → Q ad none (a0, a1, a2, a3, a4, a5, a6, [.inr (1, [.int w, .int (ca + 1), .int cb, .int (th_nx sd), .int st, .int tg])], a8)) : pm_C l G m_X1_strike [.ref (ad 7 0), .ref (ad 2 i), .ref (ad 2 j), .int 0] ad (a0, a1, a2, a3, a4, a5, a6, [.inr (1, [.int w, .int ca, .int cb, .int sd, .int st, .int tg])], a8) Q := by
  refine pm_met (by decide) (Nat.le_of_ble_eq_true rfl) ?_
  refine pm_iload_n dX1_strike_0 rfl rfl ?_
  refine pm_if_eq (tgt := 11) dX1_strike_1 (by decide) (fun c_1 => ?_) (fun c_1 => absurd (rfl) c_1)
  refine pm_aload_n dX1_strike_11 rfl rfl ?_
  refine pm_get fl_RX1_20_1 dX1_strike_12 rfl rfl ?_
  refine pm_istore (lv2 := [(4, _), (0, _), (1, _), (2, _), (3, _)]) dX1_strike_15 (Nat.le_of_ble_eq_true rfl) rfl ?_
  refine pm_bipush (v := 15) dX1_strike_17 (by decide) ?_
  refine pm_iconst (v := 5) dX1_strike_19 (by decide) ?_
  refine pm_aload_n dX1_strike_20 rfl rfl ?_
  refine cn_RX1_70 (M := m_X1_strike) (st := []) dX1_strike_21 (show pm_get? _ 2 i = _ from hwi) rfl (Nat.le_of_ble_eq_true rfl) ⟨⟨Nat.le_of_ble_eq_true rfl, Nat.le_of_ble_eq_true rfl⟩, Nat.le_of_ble_eq_true rfl, Nat.le_of_ble_eq_true rfl⟩ ?_
  refine pm_aload_n dX1_strike_24 rfl rfl ?_
  refine cn_RX1_70 (M := m_X1_strike) (st := []) dX1_strike_25 (show pm_get? _ 2 j = _ from hwj) rfl (Nat.le_of_ble_eq_true rfl) ⟨⟨Nat.le_of_ble_eq_true rfl, Nat.le_of_ble_eq_true rfl⟩, Nat.le_of_ble_eq_true rfl, Nat.le_of_ble_eq_true rfl⟩ ?_
  refine pm_isub dX1_strike_28 ?_
  refine pm_imul dX1_strike_29 ?_
  refine pm_iadd dX1_strike_30 ?_
  refine pm_iconst (v := 4) dX1_strike_31 (by decide) ?_
  refine pm_iload dX1_strike_32 rfl ?_
  refine pm_imul dX1_strike_34 ?_
  refine pm_iadd dX1_strike_35 ?_
  refine pm_istore (lv2 := [(5, _), (4, _), (0, _), (1, _), (2, _), (3, _)]) dX1_strike_36 (Nat.le_of_ble_eq_true rfl) rfl ?_
  refine pm_aload_n dX1_strike_38 rfl rfl ?_
  refine pm_bipush (v := 100) dX1_strike_39 (by decide) ?_
  refine pm_callV (M2 := m_X1_draw) (As := [_]) ok_X1_draw (ci := 1) rfl kw_625 kw_627 kw_6 dX1_strike_41 rfl rfl rfl (Nat.le_of_ble_eq_true rfl) ⟨⟨Nat.le_of_ble_eq_true rfl, Nat.le_of_ble_eq_true rfl⟩, Nat.le_of_ble_eq_true rfl, Nat.le_of_ble_eq_true rfl⟩ ?_
  refine c_X1_draw (by decide) ?_
  refine pm_iconst (v := 1) dX1_strike_44 (by decide) ?_
  refine pm_bipush (v := 95) dX1_strike_45 (by decide) ?_
  refine pm_iload dX1_strike_47 rfl ?_
  refine pm_min kw_635 kw_372 kw_54 kw_373 (Nat.le_of_ble_eq_true rfl) (Nat.le_of_ble_eq_true rfl) (Nat.le_of_ble_eq_true rfl) (Nat.le_of_ble_eq_true rfl) dX1_strike_49 ?_
  refine pm_max kw_641 kw_369 kw_54 kw_370 (Nat.le_of_ble_eq_true rfl) (Nat.le_of_ble_eq_true rfl) (Nat.le_of_ble_eq_true rfl) (Nat.le_of_ble_eq_true rfl) dX1_strike_52 ?_
  rw [th_cm_mm]
  refine pm_icmp_ge (tgt := 69) dX1_strike_55 (by decide) (fun c_55 => ?_) (fun c_55 => ?_)
  · refine pm_iload_n dX1_strike_69 rfl rfl ?_
    refine pm_if_eq (tgt := 86) dX1_strike_70 (by decide) (fun c_70 => ?_) (fun c_70 => absurd (rfl) c_70)
    refine pm_aload_n dX1_strike_86 rfl rfl ?_
    refine pm_dup dX1_strike_87 rfl ?_
    refine pm_get fl_RX1_20_1 dX1_strike_88 rfl rfl ?_
    refine pm_iconst (v := 1) dX1_strike_91 (by decide) ?_
    refine pm_iadd dX1_strike_92 ?_
    refine pm_put (w2 := (_, _, _, _, _, _, _, [.inr (_, [_, _, _, _, _, _])], _)) fl_RX1_20_1 fp_1_1 dX1_strike_93 rfl rfl rfl (Nat.le_of_ble_eq_true rfl) rfl ?_
    refine pm_vret dX1_strike_96 rfl rfl rfl ?_
    exact h0 (Int32.not_lt.mpr c_55)
  · refine pm_aload_n dX1_strike_58 rfl rfl ?_
    refine pm_aload_n dX1_strike_59 rfl rfl ?_
    refine pm_get (fn_RX1_43 _) dX1_strike_60 (show pm_get? _ 2 i = _ from hwi) rfl ?_
    refine pm_put (w2 := (_, _, _, _, _, _, _, [.inr (_, [_, _, _, _, _, _])], _)) fl_RX1_9_1 fp_1_0 dX1_strike_63 rfl rfl rfl (Nat.le_of_ble_eq_true rfl) rfl ?_
    refine pm_goto (tgt := 96) dX1_strike_66 (by decide) ?_
    refine pm_vret dX1_strike_96 rfl rfl rfl ?_
    exact h1 (Int32.not_le.mp c_55)

def th_BQ (ad : Nat → Nat → Nat) (a0 a3 a4 a5 a6 a8 : List pm_A) (a1 a2 : Nat → Option pm_A) (Q : pm_T) (a b : Nat) (r : Nat × Int32 × Nat × Int32 × Int32 × Int32) : Prop := Q ad none (a0, a1, a2, a3, a4, a5, a6, [.inr (1, [.int (th_wn a b r.1), .int r.2.2.2.2.1, .int r.2.2.2.2.2, .int r.2.1, .int (nI r.2.2.1), .int r.2.2.2.1])], a8)
set_option maxHeartbeats 600000 in
set_option maxRecDepth 100000 in
theorem e_X1_strikeOut {l : Launch} {G : pm_G} {ad : Nat → Nat → Nat} {a0 a3 a4 a5 a6 a8 : List pm_A} {a1 a2 : Nat → Option pm_A} {A Y : Nat → Nat → Int32} {Q : pm_T} {a b ka kb sa sb : Nat} {sd0 : Int32} (ha : a < 8) (hb : b < 8) (hne : a ≠ b) (hwa : a2 a = some (.inr (pm_kc ka, th_nf ad A Y a))) (hwb : a2 b = some (.inr (pm_kc kb, th_nf ad A Y b))) (hsa : sa < 3) (hsb : sb < 3) (esa : A 7 a = nI sa) (esb : A 7 b = nI sb) (hva : a1 sa = some (.inr (10, th_sf A sa))) (hvb : a1 sb = some (.inr (10, th_sf A sb))) {i : Nat} {fa w ca cb sd st tg : Int32} (hi : i ≤ 50) (h : i = 50 ∨ ¬ w = -1) (hQ : Q ad none (a0, a1, a2, a3, a4, a5, a6, [.inr (1, [.int w, .int ca, .int cb, .int sd, .int st, .int tg])], a8)) : pm_W l G m_X1_strikeOut ad 42 [(5, .int (nI i)), (4, .int fa), (0, .ref (ad 7 0)), (1, .ref (ad 2 a)), (2, .ref (ad 2 b)), (3, .int sd0)] [] (a0, a1, a2, a3, a4, a5, a6, [.inr (1, [.int w, .int ca, .int cb, .int sd, .int st, .int tg])], a8) 0 0 Q := by
  refine pm_iload dX1_strikeOut_42 rfl ?_
  refine pm_bipush (v := 50) dX1_strikeOut_44 (by decide) ?_
  rw [show (50 : Int32) = nI 50 from rfl]
  refine pm_icmp_ge (tgt := 163) dX1_strikeOut_46 (by decide) (fun c_46 => ?_) (fun c_46 => ?_)
  · refine pm_vret dX1_strikeOut_163 rfl rfl rfl ?_
    exact hQ
  · refine pm_aload_n dX1_strikeOut_49 rfl rfl ?_
    refine pm_get fl_RX1_9_1 dX1_strikeOut_50 rfl rfl ?_
    refine pm_iconst (v := (-1)) dX1_strikeOut_53 (by decide) ?_
    refine pm_icmp_ne (tgt := 163) dX1_strikeOut_54 (by decide) (fun c_54 => ?_) (fun c_54 => absurd c_54 (h.elim (fun e => absurd (show nI 50 ≤ nI i by rw [e]; exact Int32.le_refl _) c_46) id))
    refine pm_vret dX1_strikeOut_163 rfl rfl rfl ?_
    exact hQ

theorem th_nsn_tF {a b : Nat} {t : Int32} (hne : a ≠ b) (ha : a < 8) (hb : b < 8) (h : (if t = 116 then nI a else if t = 111 then nI b else if nI b < nI a then nI b else nI a) = nI a) : th_ns (decide (a < b)) true t = true := by
  unfold th_ns
  have e1 : ¬ nI a = nI b := fun e => hne ((nI_eq (by omega) (by omega)).mp e)
  have e2 : ¬ nI b = nI a := fun e => e1 e.symm
  have l1 : nI a < nI b ↔ a < b := nI_ltI (by omega) (by omega)
  have l2 : nI b < nI a ↔ b < a := nI_ltI (by omega) (by omega)
  by_cases h1 : t = 116
  · simp [h1, e1, e2] at h ⊢
  · by_cases h2 : t = 111
    · simp [h2, e1, e2] at h ⊢
    · rw [if_neg h1, if_neg h2] at h
      rw [if_neg h1, if_neg h2]
      by_cases h3 : a < b
      · have h4 : ¬ b < a := by omega
        simp [l1, l2, h3, h4, e1, e2] at h ⊢
      · have h4 : b < a := by omega
        simp [l1, l2, h3, h4, e1, e2] at h ⊢
theorem th_nsn_tT {a b : Nat} {t : Int32} (hne : a ≠ b) (ha : a < 8) (hb : b < 8) (h : ¬ (if t = 116 then nI a else if t = 111 then nI b else if nI b < nI a then nI b else nI a) = nI a) : th_ns (decide (a < b)) true t = false := by
  unfold th_ns
  have e1 : ¬ nI a = nI b := fun e => hne ((nI_eq (by omega) (by omega)).mp e)
  have e2 : ¬ nI b = nI a := fun e => e1 e.symm
  have l1 : nI a < nI b ↔ a < b := nI_ltI (by omega) (by omega)
  have l2 : nI b < nI a ↔ b < a := nI_ltI (by omega) (by omega)
  by_cases h1 : t = 116
  · simp [h1, e1, e2] at h ⊢
  · by_cases h2 : t = 111
    · simp [h2, e1, e2] at h ⊢
    · rw [if_neg h1, if_neg h2] at h
      rw [if_neg h1, if_neg h2]
      by_cases h3 : a < b
      · have h4 : ¬ b < a := by omega
        simp [l1, l2, h3, h4, e1, e2] at h ⊢
      · have h4 : b < a := by omega
        simp [l1, l2, h3, h4, e1, e2] at h ⊢
theorem th_nm1 {n : Nat} (h : n < 8) : ¬ nI n = -1 := fun e => absurd (show nI n < 0 by rw [e]; decide) (nI_pos (by omega))
set_option maxHeartbeats 600000 in
set_option maxRecDepth 100000 in
theorem b_X1_strikeOut_true {l : Launch} {G : pm_G} {ad : Nat → Nat → Nat} {a0 a3 a4 a5 a6 a8 : List pm_A} {a1 a2 : Nat → Option pm_A} {A Y : Nat → Nat → Int32} {Q : pm_T} {a b ka kb sa sb : Nat} {sd0 : Int32} (ha : a < 8) (hb : b < 8) (hne : a ≠ b) (hwa : a2 a = some (.inr (pm_kc ka, th_nf ad A Y a))) (hwb : a2 b = some (.inr (pm_kc kb, th_nf ad A Y b))) (hsa : sa < 3) (hsb : sb < 3) (esa : A 7 a = nI sa) (esb : A 7 b = nI sb) (hva : a1 sa = some (.inr (10, th_sf A sa))) (hvb : a1 sb = some (.inr (10, th_sf A sb))) {n k : Nat} {sd tg ca cb : Int32} (hk : k < 50) (ih : ∀ (fa : Bool) (sd tg ca cb : Int32), th_BQ ad a0 a3 a4 a5 a6 a8 a1 a2 Q a b (th_ft (pm_hd ka (A 8 a)) (pm_hd kb (A 8 b)) (A 4 sa) (A 4 sb) (decide (a < b)) n (k + 1) fa sd tg ca cb) → pm_W l G m_X1_strikeOut ad 42 [(5, .int (nI (k + 1))), (4, .int (if fa then 1 else 0)), (0, .ref (ad 7 0)), (1, .ref (ad 2 a)), (2, .ref (ad 2 b)), (3, .int sd0)] [] (a0, a1, a2, a3, a4, a5, a6, [.inr (1, [.int (-1), .int ca, .int cb, .int sd, .int (nI (k + 1)), .int tg])], a8) 0 0 Q) (hQ : th_BQ ad a0 a3 a4 a5 a6 a8 a1 a2 Q a b (th_ft (pm_hd ka (A 8 a)) (pm_hd kb (A 8 b)) (A 4 sa) (A 4 sb) (decide (a < b)) (n + 1) k true sd tg ca cb)) : pm_W l G m_X1_strikeOut ad 42 [(5, .int (nI k)), (4, .int 1), (0, .ref (ad 7 0)), (1, .ref (ad 2 a)), (2, .ref (ad 2 b)), (3, .int sd0)] [] (a0, a1, a2, a3, a4, a5, a6, [.inr (1, [.int (-1), .int ca, .int cb, .int sd, .int (nI k), .int tg])], a8) 0 0 Q := by
  refine pm_iload dX1_strikeOut_42 rfl ?_
  refine pm_bipush (v := 50) dX1_strikeOut_44 (by decide) ?_
  rw [show (50 : Int32) = nI 50 from rfl]
  refine pm_icmp_ge (tgt := 163) dX1_strikeOut_46 (by decide) (fun c_46 => absurd c_46 (show ¬ nI 50 ≤ nI k from by rw [nI_leI (by decide) (by omega)]; omega)) (fun c_46 => ?_)
  refine pm_aload_n dX1_strikeOut_49 rfl rfl ?_
  refine pm_get fl_RX1_9_1 dX1_strikeOut_50 rfl rfl ?_
  refine pm_iconst (v := (-1)) dX1_strikeOut_53 (by decide) ?_
  refine pm_icmp_ne (tgt := 163) dX1_strikeOut_54 (by decide) (fun c_54 => absurd (rfl) c_54) (fun c_54 => ?_)
  refine pm_iload dX1_strikeOut_57 rfl ?_
  refine pm_if_eq (tgt := 66) dX1_strikeOut_59 (by decide) (fun c_59 => absurd c_59 (by decide)) (fun c_59 => ?_)
  refine pm_aload_n dX1_strikeOut_62 rfl rfl ?_
  refine pm_goto (tgt := 67) dX1_strikeOut_63 (by decide) ?_
  refine pm_astore (lv2 := [(6, _), (5, _), (4, _), (0, _), (1, _), (2, _), (3, _)]) dX1_strikeOut_67 (Nat.le_of_ble_eq_true rfl) rfl ?_
  refine pm_iload dX1_strikeOut_69 rfl ?_
  refine pm_if_eq (tgt := 78) dX1_strikeOut_71 (by decide) (fun c_71 => absurd c_71 (by decide)) (fun c_71 => ?_)
  refine pm_aload_n dX1_strikeOut_74 rfl rfl ?_
  refine pm_goto (tgt := 79) dX1_strikeOut_75 (by decide) ?_
  refine pm_astore (lv2 := [(7, _), (6, _), (5, _), (4, _), (0, _), (1, _), (2, _), (3, _)]) dX1_strikeOut_79 (Nat.le_of_ble_eq_true rfl) rfl ?_
  refine pm_aload_n dX1_strikeOut_81 rfl rfl ?_
  refine pm_dup dX1_strikeOut_82 rfl ?_
  refine pm_get fl_RX1_29_1 dX1_strikeOut_83 rfl rfl ?_
  refine pm_iconst (v := 1) dX1_strikeOut_86 (by decide) ?_
  refine pm_iadd dX1_strikeOut_87 ?_
  rw [nI_1]
  refine pm_put (w2 := (_, _, _, _, _, _, _, [.inr (_, [_, _, _, _, _, _])], _)) fl_RX1_29_1 fp_1_4 dX1_strikeOut_88 rfl rfl rfl (Nat.le_of_ble_eq_true rfl) rfl ?_
  refine pm_aload_n dX1_strikeOut_91 rfl rfl ?_
  refine pm_bipush (v := 10) dX1_strikeOut_92 (by decide) ?_
  refine pm_callV (M2 := m_X1_draw) (As := [_]) ok_X1_draw (ci := 1) rfl kw_625 kw_627 kw_6 dX1_strikeOut_94 rfl rfl rfl (Nat.le_of_ble_eq_true rfl) ⟨⟨Nat.le_of_ble_eq_true rfl, Nat.le_of_ble_eq_true rfl⟩, Nat.le_of_ble_eq_true rfl, Nat.le_of_ble_eq_true rfl⟩ ?_
  refine c_X1_draw (by decide) ?_
  refine pm_iconst (v := 2) dX1_strikeOut_97 (by decide) ?_
  refine pm_icmp_ge (tgt := 135) dX1_strikeOut_98 (by decide) (fun c_98 => ?_) (fun c_98 => ?_)
  · refine pm_aload_n dX1_strikeOut_135 rfl rfl ?_
    refine pm_aload dX1_strikeOut_136 rfl ?_
    refine pm_aload dX1_strikeOut_138 rfl ?_
    refine pm_iload dX1_strikeOut_140 rfl ?_
    refine pm_callV (M2 := m_X1_strike) (As := [_, _, _]) ok_X1_strike (ci := 1) rfl kw_636 kw_638 kw_7 dX1_strikeOut_142 rfl rfl rfl (Nat.le_of_ble_eq_true rfl) ⟨⟨Nat.le_of_ble_eq_true rfl, Nat.le_of_ble_eq_true rfl⟩, Nat.le_of_ble_eq_true rfl, Nat.le_of_ble_eq_true rfl⟩ ?_
    refine c_X1_strike_1 (i := a) (j := b) hwa hwb (fun hz => ?_) (fun hz => ?_)
    · refine pm_iload dX1_strikeOut_145 rfl ?_
      refine pm_if_ne (tgt := 154) dX1_strikeOut_147 (by decide) (fun c_147 => ?_) (fun c_147 => absurd c_147 (by decide))
      refine pm_iconst (v := 0) dX1_strikeOut_154 (by decide) ?_
      refine pm_istore (lv2 := [(4, _), (7, _), (6, _), (5, _), (0, _), (1, _), (2, _), (3, _)]) dX1_strikeOut_155 (Nat.le_of_ble_eq_true rfl) rfl ?_
      refine pm_iinc (lv2 := [(5, _), (4, _), (7, _), (6, _), (0, _), (1, _), (2, _), (3, _)]) dX1_strikeOut_157 rfl (nI_1 k) (Nat.le_of_ble_eq_true rfl) rfl ?_
      refine pm_goto (tgt := 42) dX1_strikeOut_160 (by decide) ?_
      refine pm_pick [0, 1, 4, 5, 6, 7] rfl ?_
      rw [th_fwt (Int32.not_lt.mpr c_98) hz] at hQ
      exact e_X1_strikeOut ha hb hne hwa hwb hsa hsb esa esb hva hvb (by omega) (Or.inr (th_nm1 (by omega))) hQ
    · refine pm_iload dX1_strikeOut_145 rfl ?_
      refine pm_if_ne (tgt := 154) dX1_strikeOut_147 (by decide) (fun c_147 => ?_) (fun c_147 => absurd c_147 (by decide))
      refine pm_iconst (v := 0) dX1_strikeOut_154 (by decide) ?_
      refine pm_istore (lv2 := [(4, _), (7, _), (6, _), (5, _), (0, _), (1, _), (2, _), (3, _)]) dX1_strikeOut_155 (Nat.le_of_ble_eq_true rfl) rfl ?_
      refine pm_iinc (lv2 := [(5, _), (4, _), (7, _), (6, _), (0, _), (1, _), (2, _), (3, _)]) dX1_strikeOut_157 rfl (nI_1 k) (Nat.le_of_ble_eq_true rfl) rfl ?_
      refine pm_goto (tgt := 42) dX1_strikeOut_160 (by decide) ?_
      refine pm_pick [0, 1, 4, 5, 6, 7] rfl ?_
      rw [th_fmt (Int32.not_lt.mpr c_98) hz] at hQ
      exact ih false _ _ _ _ hQ
  · refine pm_aload_n dX1_strikeOut_101 rfl rfl ?_
    refine pm_dup dX1_strikeOut_102 rfl ?_
    refine pm_get fl_RX1_32_1 dX1_strikeOut_103 rfl rfl ?_
    refine pm_iconst (v := 1) dX1_strikeOut_106 (by decide) ?_
    refine pm_iadd dX1_strikeOut_107 ?_
    refine pm_put (w2 := (_, _, _, _, _, _, _, [.inr (_, [_, _, _, _, _, _])], _)) fl_RX1_32_1 fp_1_5 dX1_strikeOut_108 rfl rfl rfl (Nat.le_of_ble_eq_true rfl) rfl ?_
    refine pm_aload dX1_strikeOut_111 rfl ?_
    refine pm_aload dX1_strikeOut_113 rfl ?_
    refine pm_callS (M2 := m_X1_nextStriker) (As := [_, _]) ok_X1_nextStriker kw_632 kw_633 dX1_strikeOut_115 rfl rfl (Nat.le_of_ble_eq_true rfl) ⟨⟨Nat.le_of_ble_eq_true rfl, Nat.le_of_ble_eq_true rfl⟩, Nat.le_of_ble_eq_true rfl, Nat.le_of_ble_eq_true rfl⟩ ?_
    refine c_X1_nextStriker (i := a) (j := b) hwa hwb esa hsa hva ?_
    refine pm_aload_n dX1_strikeOut_118 rfl rfl ?_
    refine pm_get (fn_RX1_43 _) dX1_strikeOut_119 (show pm_get? _ 2 a = _ from hwa) rfl ?_
    refine pm_icmp_ne (tgt := 129) dX1_strikeOut_122 (by decide) (fun c_122 => ?_) (fun c_122 => ?_)
    · refine pm_iconst (v := 0) dX1_strikeOut_129 (by decide) ?_
      refine pm_istore (lv2 := [(4, _), (7, _), (6, _), (5, _), (0, _), (1, _), (2, _), (3, _)]) dX1_strikeOut_130 (Nat.le_of_ble_eq_true rfl) rfl ?_
      refine pm_goto (tgt := 157) dX1_strikeOut_132 (by decide) ?_
      refine pm_iinc (lv2 := [(5, _), (4, _), (7, _), (6, _), (0, _), (1, _), (2, _), (3, _)]) dX1_strikeOut_157 rfl (nI_1 k) (Nat.le_of_ble_eq_true rfl) rfl ?_
      refine pm_goto (tgt := 42) dX1_strikeOut_160 (by decide) ?_
      refine pm_pick [0, 1, 4, 5, 6, 7] rfl ?_
      have hns : th_ns (decide (a < b)) true (A 4 sa) = false := th_nsn_tT hne ha hb c_122
      rw [th_fat (Int32.not_le.mp c_98), hns] at hQ
      exact ih false _ _ _ _ hQ
    · refine pm_iconst (v := 1) dX1_strikeOut_125 (by decide) ?_
      refine pm_goto (tgt := 130) dX1_strikeOut_126 (by decide) ?_
      refine pm_istore (lv2 := [(4, _), (7, _), (6, _), (5, _), (0, _), (1, _), (2, _), (3, _)]) dX1_strikeOut_130 (Nat.le_of_ble_eq_true rfl) rfl ?_
      refine pm_goto (tgt := 157) dX1_strikeOut_132 (by decide) ?_
      refine pm_iinc (lv2 := [(5, _), (4, _), (7, _), (6, _), (0, _), (1, _), (2, _), (3, _)]) dX1_strikeOut_157 rfl (nI_1 k) (Nat.le_of_ble_eq_true rfl) rfl ?_
      refine pm_goto (tgt := 42) dX1_strikeOut_160 (by decide) ?_
      refine pm_pick [0, 1, 4, 5, 6, 7] rfl ?_
      have hns : th_ns (decide (a < b)) true (A 4 sa) = true := th_nsn_tF hne ha hb c_122
      rw [th_fat (Int32.not_le.mp c_98), hns] at hQ
      exact ih true _ _ _ _ hQ

theorem th_nsn_fF {a b : Nat} {t : Int32} (hne : a ≠ b) (ha : a < 8) (hb : b < 8) (h : (if t = 116 then nI b else if t = 111 then nI a else if nI a < nI b then nI a else nI b) = nI a) : th_ns (decide (a < b)) false t = true := by
  unfold th_ns
  have e1 : ¬ nI a = nI b := fun e => hne ((nI_eq (by omega) (by omega)).mp e)
  have e2 : ¬ nI b = nI a := fun e => e1 e.symm
  have l1 : nI a < nI b ↔ a < b := nI_ltI (by omega) (by omega)
  have l2 : nI b < nI a ↔ b < a := nI_ltI (by omega) (by omega)
  by_cases h1 : t = 116
  · simp [h1, e1, e2] at h ⊢
  · by_cases h2 : t = 111
    · simp [h2, e1, e2] at h ⊢
    · rw [if_neg h1, if_neg h2] at h
      rw [if_neg h1, if_neg h2]
      by_cases h3 : a < b
      · have h4 : ¬ b < a := by omega
        simp [l1, l2, h3, h4, e1, e2] at h ⊢
      · have h4 : b < a := by omega
        simp [l1, l2, h3, h4, e1, e2] at h ⊢
theorem th_nsn_fT {a b : Nat} {t : Int32} (hne : a ≠ b) (ha : a < 8) (hb : b < 8) (h : ¬ (if t = 116 then nI b else if t = 111 then nI a else if nI a < nI b then nI a else nI b) = nI a) : th_ns (decide (a < b)) false t = false := by
  unfold th_ns
  have e1 : ¬ nI a = nI b := fun e => hne ((nI_eq (by omega) (by omega)).mp e)
  have e2 : ¬ nI b = nI a := fun e => e1 e.symm
  have l1 : nI a < nI b ↔ a < b := nI_ltI (by omega) (by omega)
  have l2 : nI b < nI a ↔ b < a := nI_ltI (by omega) (by omega)
  by_cases h1 : t = 116
  · simp [h1, e1, e2] at h ⊢
  · by_cases h2 : t = 111
    · simp [h2, e1, e2] at h ⊢
    · rw [if_neg h1, if_neg h2] at h
      rw [if_neg h1, if_neg h2]
      by_cases h3 : a < b
      · have h4 : ¬ b < a := by omega
        simp [l1, l2, h3, h4, e1, e2] at h ⊢
      · have h4 : b < a := by omega
        simp [l1, l2, h3, h4, e1, e2] at h ⊢
set_option maxHeartbeats 600000 in
set_option maxRecDepth 100000 in
theorem b_X1_strikeOut_false {l : Launch} {G : pm_G} {ad : Nat → Nat → Nat} {a0 a3 a4 a5 a6 a8 : List pm_A} {a1 a2 : Nat → Option pm_A} {A Y : Nat → Nat → Int32} {Q : pm_T} {a b ka kb sa sb : Nat} {sd0 : Int32} (ha : a < 8) (hb : b < 8) (hne : a ≠ b) (hwa : a2 a = some (.inr (pm_kc ka, th_nf ad A Y a))) (hwb : a2 b = some (.inr (pm_kc kb, th_nf ad A Y b))) (hsa : sa < 3) (hsb : sb < 3) (esa : A 7 a = nI sa) (esb : A 7 b = nI sb) (hva : a1 sa = some (.inr (10, th_sf A sa))) (hvb : a1 sb = some (.inr (10, th_sf A sb))) {n k : Nat} {sd tg ca cb : Int32} (hk : k < 50) (ih : ∀ (fa : Bool) (sd tg ca cb : Int32), th_BQ ad a0 a3 a4 a5 a6 a8 a1 a2 Q a b (th_ft (pm_hd ka (A 8 a)) (pm_hd kb (A 8 b)) (A 4 sa) (A 4 sb) (decide (a < b)) n (k + 1) fa sd tg ca cb) → pm_W l G m_X1_strikeOut ad 42 [(5, .int (nI (k + 1))), (4, .int (if fa then 1 else 0)), (0, .ref (ad 7 0)), (1, .ref (ad 2 a)), (2, .ref (ad 2 b)), (3, .int sd0)] [] (a0, a1, a2, a3, a4, a5, a6, [.inr (1, [.int (-1), .int ca, .int cb, .int sd, .int (nI (k + 1)), .int tg])], a8) 0 0 Q) (hQ : th_BQ ad a0 a3 a4 a5 a6 a8 a1 a2 Q a b (th_ft (pm_hd ka (A 8 a)) (pm_hd kb (A 8 b)) (A 4 sa) (A 4 sb) (decide (a < b)) (n + 1) k false sd tg ca cb)) : pm_W l G m_X1_strikeOut ad 42 [(5, .int (nI k)), (4, .int 0), (0, .ref (ad 7 0)), (1, .ref (ad 2 a)), (2, .ref (ad 2 b)), (3, .int sd0)] [] (a0, a1, a2, a3, a4, a5, a6, [.inr (1, [.int (-1), .int ca, .int cb, .int sd, .int (nI k), .int tg])], a8) 0 0 Q := by
  refine pm_iload dX1_strikeOut_42 rfl ?_
  refine pm_bipush (v := 50) dX1_strikeOut_44 (by decide) ?_
  rw [show (50 : Int32) = nI 50 from rfl]
  refine pm_icmp_ge (tgt := 163) dX1_strikeOut_46 (by decide) (fun c_46 => absurd c_46 (show ¬ nI 50 ≤ nI k from by rw [nI_leI (by decide) (by omega)]; omega)) (fun c_46 => ?_)
  refine pm_aload_n dX1_strikeOut_49 rfl rfl ?_
  refine pm_get fl_RX1_9_1 dX1_strikeOut_50 rfl rfl ?_
  refine pm_iconst (v := (-1)) dX1_strikeOut_53 (by decide) ?_
  refine pm_icmp_ne (tgt := 163) dX1_strikeOut_54 (by decide) (fun c_54 => absurd (rfl) c_54) (fun c_54 => ?_)
  refine pm_iload dX1_strikeOut_57 rfl ?_
  refine pm_if_eq (tgt := 66) dX1_strikeOut_59 (by decide) (fun c_59 => ?_) (fun c_59 => absurd (rfl) c_59)
  refine pm_aload_n dX1_strikeOut_66 rfl rfl ?_
  refine pm_astore (lv2 := [(6, _), (5, _), (4, _), (0, _), (1, _), (2, _), (3, _)]) dX1_strikeOut_67 (Nat.le_of_ble_eq_true rfl) rfl ?_
  refine pm_iload dX1_strikeOut_69 rfl ?_
  refine pm_if_eq (tgt := 78) dX1_strikeOut_71 (by decide) (fun c_71 => ?_) (fun c_71 => absurd (rfl) c_71)
  refine pm_aload_n dX1_strikeOut_78 rfl rfl ?_
  refine pm_astore (lv2 := [(7, _), (6, _), (5, _), (4, _), (0, _), (1, _), (2, _), (3, _)]) dX1_strikeOut_79 (Nat.le_of_ble_eq_true rfl) rfl ?_
  refine pm_aload_n dX1_strikeOut_81 rfl rfl ?_
  refine pm_dup dX1_strikeOut_82 rfl ?_
  refine pm_get fl_RX1_29_1 dX1_strikeOut_83 rfl rfl ?_
  refine pm_iconst (v := 1) dX1_strikeOut_86 (by decide) ?_
  refine pm_iadd dX1_strikeOut_87 ?_
  rw [nI_1]
  refine pm_put (w2 := (_, _, _, _, _, _, _, [.inr (_, [_, _, _, _, _, _])], _)) fl_RX1_29_1 fp_1_4 dX1_strikeOut_88 rfl rfl rfl (Nat.le_of_ble_eq_true rfl) rfl ?_
  refine pm_aload_n dX1_strikeOut_91 rfl rfl ?_
  refine pm_bipush (v := 10) dX1_strikeOut_92 (by decide) ?_
  refine pm_callV (M2 := m_X1_draw) (As := [_]) ok_X1_draw (ci := 1) rfl kw_625 kw_627 kw_6 dX1_strikeOut_94 rfl rfl rfl (Nat.le_of_ble_eq_true rfl) ⟨⟨Nat.le_of_ble_eq_true rfl, Nat.le_of_ble_eq_true rfl⟩, Nat.le_of_ble_eq_true rfl, Nat.le_of_ble_eq_true rfl⟩ ?_
  refine c_X1_draw (by decide) ?_
  refine pm_iconst (v := 2) dX1_strikeOut_97 (by decide) ?_
  refine pm_icmp_ge (tgt := 135) dX1_strikeOut_98 (by decide) (fun c_98 => ?_) (fun c_98 => ?_)
  · refine pm_aload_n dX1_strikeOut_135 rfl rfl ?_
    refine pm_aload dX1_strikeOut_136 rfl ?_
    refine pm_aload dX1_strikeOut_138 rfl ?_
    refine pm_iload dX1_strikeOut_140 rfl ?_
    refine pm_callV (M2 := m_X1_strike) (As := [_, _, _]) ok_X1_strike (ci := 1) rfl kw_636 kw_638 kw_7 dX1_strikeOut_142 rfl rfl rfl (Nat.le_of_ble_eq_true rfl) ⟨⟨Nat.le_of_ble_eq_true rfl, Nat.le_of_ble_eq_true rfl⟩, Nat.le_of_ble_eq_true rfl, Nat.le_of_ble_eq_true rfl⟩ ?_
    refine c_X1_strike_0 (i := b) (j := a) hwb hwa (fun hz => ?_) (fun hz => ?_)
    · refine pm_iload dX1_strikeOut_145 rfl ?_
      refine pm_if_ne (tgt := 154) dX1_strikeOut_147 (by decide) (fun c_147 => absurd (rfl) c_147) (fun c_147 => ?_)
      refine pm_iconst (v := 1) dX1_strikeOut_150 (by decide) ?_
      refine pm_goto (tgt := 155) dX1_strikeOut_151 (by decide) ?_
      refine pm_istore (lv2 := [(4, _), (7, _), (6, _), (5, _), (0, _), (1, _), (2, _), (3, _)]) dX1_strikeOut_155 (Nat.le_of_ble_eq_true rfl) rfl ?_
      refine pm_iinc (lv2 := [(5, _), (4, _), (7, _), (6, _), (0, _), (1, _), (2, _), (3, _)]) dX1_strikeOut_157 rfl (nI_1 k) (Nat.le_of_ble_eq_true rfl) rfl ?_
      refine pm_goto (tgt := 42) dX1_strikeOut_160 (by decide) ?_
      refine pm_pick [0, 1, 4, 5, 6, 7] rfl ?_
      rw [th_fwf (Int32.not_lt.mpr c_98) hz] at hQ
      exact e_X1_strikeOut ha hb hne hwa hwb hsa hsb esa esb hva hvb (by omega) (Or.inr (th_nm1 (by omega))) hQ
    · refine pm_iload dX1_strikeOut_145 rfl ?_
      refine pm_if_ne (tgt := 154) dX1_strikeOut_147 (by decide) (fun c_147 => absurd (rfl) c_147) (fun c_147 => ?_)
      refine pm_iconst (v := 1) dX1_strikeOut_150 (by decide) ?_
      refine pm_goto (tgt := 155) dX1_strikeOut_151 (by decide) ?_
      refine pm_istore (lv2 := [(4, _), (7, _), (6, _), (5, _), (0, _), (1, _), (2, _), (3, _)]) dX1_strikeOut_155 (Nat.le_of_ble_eq_true rfl) rfl ?_
      refine pm_iinc (lv2 := [(5, _), (4, _), (7, _), (6, _), (0, _), (1, _), (2, _), (3, _)]) dX1_strikeOut_157 rfl (nI_1 k) (Nat.le_of_ble_eq_true rfl) rfl ?_
      refine pm_goto (tgt := 42) dX1_strikeOut_160 (by decide) ?_
      refine pm_pick [0, 1, 4, 5, 6, 7] rfl ?_
      rw [th_fmf (Int32.not_lt.mpr c_98) hz] at hQ
      exact ih true _ _ _ _ hQ
  · refine pm_aload_n dX1_strikeOut_101 rfl rfl ?_
    refine pm_dup dX1_strikeOut_102 rfl ?_
    refine pm_get fl_RX1_32_1 dX1_strikeOut_103 rfl rfl ?_
    refine pm_iconst (v := 1) dX1_strikeOut_106 (by decide) ?_
    refine pm_iadd dX1_strikeOut_107 ?_
    refine pm_put (w2 := (_, _, _, _, _, _, _, [.inr (_, [_, _, _, _, _, _])], _)) fl_RX1_32_1 fp_1_5 dX1_strikeOut_108 rfl rfl rfl (Nat.le_of_ble_eq_true rfl) rfl ?_
    refine pm_aload dX1_strikeOut_111 rfl ?_
    refine pm_aload dX1_strikeOut_113 rfl ?_
    refine pm_callS (M2 := m_X1_nextStriker) (As := [_, _]) ok_X1_nextStriker kw_632 kw_633 dX1_strikeOut_115 rfl rfl (Nat.le_of_ble_eq_true rfl) ⟨⟨Nat.le_of_ble_eq_true rfl, Nat.le_of_ble_eq_true rfl⟩, Nat.le_of_ble_eq_true rfl, Nat.le_of_ble_eq_true rfl⟩ ?_
    refine c_X1_nextStriker (i := b) (j := a) hwb hwa esb hsb hvb ?_
    refine pm_aload_n dX1_strikeOut_118 rfl rfl ?_
    refine pm_get (fn_RX1_43 _) dX1_strikeOut_119 (show pm_get? _ 2 a = _ from hwa) rfl ?_
    refine pm_icmp_ne (tgt := 129) dX1_strikeOut_122 (by decide) (fun c_122 => ?_) (fun c_122 => ?_)
    · refine pm_iconst (v := 0) dX1_strikeOut_129 (by decide) ?_
      refine pm_istore (lv2 := [(4, _), (7, _), (6, _), (5, _), (0, _), (1, _), (2, _), (3, _)]) dX1_strikeOut_130 (Nat.le_of_ble_eq_true rfl) rfl ?_
      refine pm_goto (tgt := 157) dX1_strikeOut_132 (by decide) ?_
      refine pm_iinc (lv2 := [(5, _), (4, _), (7, _), (6, _), (0, _), (1, _), (2, _), (3, _)]) dX1_strikeOut_157 rfl (nI_1 k) (Nat.le_of_ble_eq_true rfl) rfl ?_
      refine pm_goto (tgt := 42) dX1_strikeOut_160 (by decide) ?_
      refine pm_pick [0, 1, 4, 5, 6, 7] rfl ?_
      have hns : th_ns (decide (a < b)) false (A 4 sb) = false := th_nsn_fT hne ha hb c_122
      rw [th_faf (Int32.not_le.mp c_98), hns] at hQ
      exact ih false _ _ _ _ hQ
    · refine pm_iconst (v := 1) dX1_strikeOut_125 (by decide) ?_
      refine pm_goto (tgt := 130) dX1_strikeOut_126 (by decide) ?_
      refine pm_istore (lv2 := [(4, _), (7, _), (6, _), (5, _), (0, _), (1, _), (2, _), (3, _)]) dX1_strikeOut_130 (Nat.le_of_ble_eq_true rfl) rfl ?_
      refine pm_goto (tgt := 157) dX1_strikeOut_132 (by decide) ?_
      refine pm_iinc (lv2 := [(5, _), (4, _), (7, _), (6, _), (0, _), (1, _), (2, _), (3, _)]) dX1_strikeOut_157 rfl (nI_1 k) (Nat.le_of_ble_eq_true rfl) rfl ?_
      refine pm_goto (tgt := 42) dX1_strikeOut_160 (by decide) ?_
      refine pm_pick [0, 1, 4, 5, 6, 7] rfl ?_
      have hns : th_ns (decide (a < b)) false (A 4 sb) = true := th_nsn_fF hne ha hb c_122
      rw [th_faf (Int32.not_le.mp c_98), hns] at hQ
      exact ih true _ _ _ _ hQ

theorem l_X1_strikeOut {l : Launch} {G : pm_G} {ad : Nat → Nat → Nat} {a0 a3 a4 a5 a6 a8 : List pm_A} {a1 a2 : Nat → Option pm_A} {A Y : Nat → Nat → Int32} {Q : pm_T} {a b ka kb sa sb : Nat} {sd0 : Int32} (ha : a < 8) (hb : b < 8) (hne : a ≠ b) (hwa : a2 a = some (.inr (pm_kc ka, th_nf ad A Y a))) (hwb : a2 b = some (.inr (pm_kc kb, th_nf ad A Y b))) (hsa : sa < 3) (hsb : sb < 3) (esa : A 7 a = nI sa) (esb : A 7 b = nI sb) (hva : a1 sa = some (.inr (10, th_sf A sa))) (hvb : a1 sb = some (.inr (10, th_sf A sb))) : ∀ (n k : Nat) (fa : Bool) (sd tg ca cb : Int32), k + n = 50 → th_BQ ad a0 a3 a4 a5 a6 a8 a1 a2 Q a b (th_ft (pm_hd ka (A 8 a)) (pm_hd kb (A 8 b)) (A 4 sa) (A 4 sb) (decide (a < b)) n k fa sd tg ca cb) → pm_W l G m_X1_strikeOut ad 42 [(5, .int (nI k)), (4, .int (if fa then 1 else 0)), (0, .ref (ad 7 0)), (1, .ref (ad 2 a)), (2, .ref (ad 2 b)), (3, .int sd0)] [] (a0, a1, a2, a3, a4, a5, a6, [.inr (1, [.int (-1), .int ca, .int cb, .int sd, .int (nI k), .int tg])], a8) 0 0 Q := by
  intro n
  induction n with
  | zero =>
    intro k fa sd tg ca cb hk hQ
    exact e_X1_strikeOut ha hb hne hwa hwb hsa hsb esa esb hva hvb (by omega) (Or.inl (by omega)) hQ
  | succ n ih =>
    intro k fa sd tg ca cb hk hQ
    have ih := fun fa sd tg ca cb => ih (k + 1) fa sd tg ca cb (by omega)
    cases fa with
    | true => exact b_X1_strikeOut_true ha hb hne hwa hwb hsa hsb esa esb hva hvb (by omega) ih hQ
    | false => exact b_X1_strikeOut_false ha hb hne hwa hwb hsa hsb esa esb hva hvb (by omega) ih hQ
set_option maxHeartbeats 600000 in
set_option maxRecDepth 100000 in
theorem c_X1_strikeOut {l : Launch} {G : pm_G} {ad : Nat → Nat → Nat} {a0 a3 a4 a5 a6 a8 : List pm_A} {a1 a2 : Nat → Option pm_A} {A Y : Nat → Nat → Int32} {Q : pm_T} {a b ka kb sa sb : Nat} {sd0 : Int32} (ha : a < 8) (hb : b < 8) (hne : a ≠ b) (hwa : a2 a = some (.inr (pm_kc ka, th_nf ad A Y a))) (hwb : a2 b = some (.inr (pm_kc kb, th_nf ad A Y b))) (hsa : sa < 3) (hsb : sb < 3) (esa : A 7 a = nI sa) (esb : A 7 b = nI sb) (hva : a1 sa = some (.inr (10, th_sf A sa))) (hvb : a1 sb = some (.inr (10, th_sf A sb))) {w ca cb sd st tg : Int32} (hQ : th_BQ ad a0 a3 a4 a5 a6 a8 a1 a2 Q a b (th_ft (pm_hd ka (A 8 a)) (pm_hd kb (A 8 b)) (A 4 sa) (A 4 sb) (decide (a < b)) 50 0 true sd0 0 (A 12 a) (A 12 b))) : pm_C l G m_X1_strikeOut [.ref (ad 7 0), .ref (ad 2 a), .ref (ad 2 b), .int sd0] ad (a0, a1, a2, a3, a4, a5, a6, [.inr (1, [.int w, .int ca, .int cb, .int sd, .int st, .int tg])], a8) Q := by
  refine pm_met (by decide) (Nat.le_of_ble_eq_true rfl) ?_
  refine pm_aload_n dX1_strikeOut_0 rfl rfl ?_
  refine pm_iconst (v := (-1)) dX1_strikeOut_1 (by decide) ?_
  refine pm_put (w2 := (_, _, _, _, _, _, _, [.inr (_, [_, _, _, _, _, _])], _)) fl_RX1_9_1 fp_1_0 dX1_strikeOut_2 rfl rfl rfl (Nat.le_of_ble_eq_true rfl) rfl ?_
  refine pm_aload_n dX1_strikeOut_5 rfl rfl ?_
  refine pm_aload_n dX1_strikeOut_6 rfl rfl ?_
  refine pm_get (fn_RX1_15 _) dX1_strikeOut_7 (show pm_get? _ 2 a = _ from hwa) rfl ?_
  refine pm_put (w2 := (_, _, _, _, _, _, _, [.inr (_, [_, _, _, _, _, _])], _)) fl_RX1_20_1 fp_1_1 dX1_strikeOut_10 rfl rfl rfl (Nat.le_of_ble_eq_true rfl) rfl ?_
  refine pm_aload_n dX1_strikeOut_13 rfl rfl ?_
  refine pm_aload_n dX1_strikeOut_14 rfl rfl ?_
  refine pm_get (fn_RX1_15 _) dX1_strikeOut_15 (show pm_get? _ 2 b = _ from hwb) rfl ?_
  refine pm_put (w2 := (_, _, _, _, _, _, _, [.inr (_, [_, _, _, _, _, _])], _)) fl_RX1_23_1 fp_1_2 dX1_strikeOut_18 rfl rfl rfl (Nat.le_of_ble_eq_true rfl) rfl ?_
  refine pm_aload_n dX1_strikeOut_21 rfl rfl ?_
  refine pm_iload_n dX1_strikeOut_22 rfl rfl ?_
  refine pm_put (w2 := (_, _, _, _, _, _, _, [.inr (_, [_, _, _, _, _, _])], _)) fl_RX1_26_1 fp_1_3 dX1_strikeOut_23 rfl rfl rfl (Nat.le_of_ble_eq_true rfl) rfl ?_
  refine pm_aload_n dX1_strikeOut_26 rfl rfl ?_
  refine pm_iconst (v := 0) dX1_strikeOut_27 (by decide) ?_
  refine pm_put (w2 := (_, _, _, _, _, _, _, [.inr (_, [_, _, _, _, _, _])], _)) fl_RX1_29_1 fp_1_4 dX1_strikeOut_28 rfl rfl rfl (Nat.le_of_ble_eq_true rfl) rfl ?_
  refine pm_aload_n dX1_strikeOut_31 rfl rfl ?_
  refine pm_iconst (v := 0) dX1_strikeOut_32 (by decide) ?_
  refine pm_put (w2 := (_, _, _, _, _, _, _, [.inr (_, [_, _, _, _, _, _])], _)) fl_RX1_32_1 fp_1_5 dX1_strikeOut_33 rfl rfl rfl (Nat.le_of_ble_eq_true rfl) rfl ?_
  refine pm_iconst (v := 1) dX1_strikeOut_36 (by decide) ?_
  refine pm_istore (lv2 := [(4, _), (0, _), (1, _), (2, _), (3, _)]) dX1_strikeOut_37 (Nat.le_of_ble_eq_true rfl) rfl ?_
  refine pm_iconst (v := 0) dX1_strikeOut_39 (by decide) ?_
  refine pm_istore (lv2 := [(5, _), (4, _), (0, _), (1, _), (2, _), (3, _)]) dX1_strikeOut_40 (Nat.le_of_ble_eq_true rfl) rfl ?_
  exact l_X1_strikeOut ha hb hne hwa hwb hsa hsb esa esb hva hvb 50 0 true sd0 0 (A 12 a) (A 12 b) rfl hQ

set_option maxHeartbeats 600000 in
set_option maxRecDepth 100000 in
theorem c_X1_tell {l : Launch} {G : pm_G} {ad : Nat → Nat → Nat} {a0 a3 a4 a5 a6 a8 : List pm_A} {a1 a2 : Nat → Option pm_A} {Q : pm_T} {w ca cb sd st tg z : Int32} (hQ : Q ad (some (.int (if z = 0 then w else if z = 1 then st else if z = 2 then tg else sd))) (a0, a1, a2, a3, a4, a5, a6, [.inr (1, [.int w, .int ca, .int cb, .int sd, .int st, .int tg])], a8)) : pm_C l G m_X1_tell [.ref (ad 7 0), .int z] ad (a0, a1, a2, a3, a4, a5, a6, [.inr (1, [.int w, .int ca, .int cb, .int sd, .int st, .int tg])], a8) Q := by
  refine pm_met (by decide) (Nat.le_of_ble_eq_true rfl) ?_
  refine pm_iload_n dX1_tell_0 rfl rfl ?_
  by_cases s_1_0 : z = 0
  · refine pm_tableIn (off := 27) (tgt := 28) dX1_tell_1 (by rw [s_1_0]; decide) (by rw [s_1_0]; decide) (by rw [s_1_0]; decide) (by decide) ?_
    refine pm_aload_n dX1_tell_28 rfl rfl ?_
    refine pm_get fl_RX1_9_1 dX1_tell_29 rfl rfl ?_
    refine pm_iret dX1_tell_32 rfl rfl rfl ?_
    refine th_r ?_ hQ
    simp [s_1_0]
  · skip
    by_cases s_1_1 : z = 1
    · refine pm_tableIn (off := 32) (tgt := 33) dX1_tell_1 (by rw [s_1_1]; decide) (by rw [s_1_1]; decide) (by rw [s_1_1]; decide) (by decide) ?_
      refine pm_aload_n dX1_tell_33 rfl rfl ?_
      refine pm_get fl_RX1_29_1 dX1_tell_34 rfl rfl ?_
      refine pm_iret dX1_tell_37 rfl rfl rfl ?_
      refine th_r ?_ hQ
      simp [s_1_0, s_1_1]
    · skip
      by_cases s_1_2 : z = 2
      · refine pm_tableIn (off := 37) (tgt := 38) dX1_tell_1 (by rw [s_1_2]; decide) (by rw [s_1_2]; decide) (by rw [s_1_2]; decide) (by decide) ?_
        refine pm_aload_n dX1_tell_38 rfl rfl ?_
        refine pm_get fl_RX1_32_1 dX1_tell_39 rfl rfl ?_
        refine pm_iret dX1_tell_42 rfl rfl rfl ?_
        refine th_r ?_ hQ
        simp [s_1_0, s_1_1, s_1_2]
      · skip
        refine pm_tableOut (tgt := 43) dX1_tell_1 (by have q0 := th_ne s_1_0 (z := 0) (by decide); have q1 := th_ne s_1_1 (z := 1) (by decide); have q2 := th_ne s_1_2 (z := 2) (by decide); omega) (by decide) ?_
        refine pm_aload_n dX1_tell_43 rfl rfl ?_
        refine pm_get fl_RX1_26_1 dX1_tell_44 rfl rfl ?_
        refine pm_iret dX1_tell_47 rfl rfl rfl ?_
        refine th_r ?_ hQ
        simp [s_1_0, s_1_1, s_1_2]

