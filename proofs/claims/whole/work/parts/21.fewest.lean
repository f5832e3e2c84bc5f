def th_mg (ad : Nat → Nat → Nat) (S : Nat → Nat) (A : Nat → Nat → Int32) (s : Nat → Int32) (B : Nat → Nat → Int32) (hs : Int64) (fe fs : Int32) : List pm_A :=
  [.inr (12, [.ref (ad 8 1), .int (nI (S 1)), .int (nI (S 2)), .ref (ad 8 2), .ref (ad 8 3), .ref (ad 8 4), .int (nI (S 6)), .int (s 7), .int (s 8), .int (s 9), .ref (ad 8 5), .int (nI (S 11)), .ref (ad 8 6), .ref (ad 8 7), .ref (ad 8 8), .ref (ad 8 9), .ref (ad 8 10), .ref (ad 8 11), .ref (ad 8 12), .ref (ad 8 13), .ref (ad 8 14), .int (s 21), .int (s 22), .int (s 23), .int (s 24), .int (s 25), .int (nI (S 26)), .ref (ad 8 15), .ref (ad 8 16), .ref (ad 8 17), .int fe, .int fs, .ref (ad 8 18), .int (s 33), .int (nI (S 34)), .ref (ad 8 19), .ref (ad 8 20), .ref (ad 8 21), .ref (ad 8 22), .ref (ad 8 23), .int (nI (S 40)), .int (nI (S 41)), .int (nI (S 42)), .long hs]),
   .inl (0, 20, .inl (A 1)),
   .inl (0, 12, .inl (A 2)),
   .inl (0, 3, .inl (A 3)),
   .inl (0, 3, .inl (A 4)),
   .inl (0, 4, .inl (B 5)),
   .inl (0, 8, .inl (A 6)),
   .inl (0, 8, .inl (A 7)),
   .inl (0, 8, .inl (A 8)),
   .inl (0, 8, .inl (A 9)),
   .inl (0, 8, .inl (A 10)),
   .inl (0, 8, .inl (A 11)),
   .inl (0, 8, .inl (A 12)),
   .inl (2, 8, .inl (A 13)),
   .inl (0, 8, .inl (A 14)),
   .inl (0, 10, .inl (A 15)),
   .inl (0, 10, .inl (A 16)),
   .inl (0, 8, .inl (B 17)),
   .inl (0, 6, .inl (B 18)),
   .inl (0, 8, .inl (A 19)),
   .inl (0, 8, .inl (A 20)),
   .inl (0, 8, .inl (A 21)),
   .inl (0, 32, .inl (A 22)),
   .inl (0, 20, .inl (A 23))]
def th_h4 (ad : Nat → Nat → Nat) (S : Nat → Nat) (A : Nat → Nat → Int32) (fl fs : Int32) (Y : Nat → Nat → Int32) : List pm_A := [.inr (3, [.int (nI (S 26)), .int fl, .int fs, .ref (ad 4 1), .ref (ad 4 2), .ref (ad 4 3), .ref (ad 4 4), .int (nI (S 41))]), .inl (0, 10, .inl (Y 2)), .inl (0, 10, .inl (Y 3)), .inl (0, 8, .inl (Y 4)), .inl (0, 8, .inl (Y 5))]
def th_cx (ad : Nat → Nat → Nat) (S : Nat → Nat) (A : Nat → Nat → Int32) (X : Nat → Int32) (Y : Nat → Nat → Int32) (F : Nat → Int64) (Hd Cs : Nat → Option Nat) (m : List pm_A) (fl fs : Int32) : pm_V := (th_g0 ad S Y, th_g1 S A, th_g2 ad S A Y, th_g3 ad S A X Y, th_h4 ad S A fl fs Y, th_g5 ad X F Hd, th_g6 ad S A Cs, th_g7 X, m)
theorem c_X12_layByG {l : Launch} {G : pm_G} {ad : Nat → Nat → Nat} {a0 a3 a4 a5 a6 a7 : List pm_A} {a1 a2 : Nat → Option pm_A} {S : Nat → Nat} {A : Nat → Nat → Int32} {s : Nat → Int32} {B : Nat → Nat → Int32} {hs : Int64} {Q : pm_T} {n : Nat} {t0 : Nat → Int32} {fe fs : Int32} (hI : th_I S A) (hn : n < 1024) (hQ : ∀ t, (∀ q, q < S 11 → t q = th_tt S A n q) → Q ad (some (.int (th_b01 (th_ok? S A n)))) (a0, a1, a2, a3, a4, a5, a6, a7, th_mg ad S A s (va_up B 17 t) hs fe fs)) : pm_C l G m_X12_layBy [.ref (ad 8 0), .int (nI n)] ad (a0, a1, a2, a3, a4, a5, a6, a7, th_mg ad S A s (va_up B 17 t0) hs fe fs) Q := c_X12_layBy (s := upd (upd s 30 fe) 31 fs) (B := va_up B 17 t0) hI hn (fun t ht => hQ t ht)
theorem c_X12_liesOfG {l : Launch} {G : pm_G} {ad : Nat → Nat → Nat} {a0 a3 a4 a5 a6 a7 : List pm_A} {a1 a2 : Nat → Option pm_A} {S : Nat → Nat} {A : Nat → Nat → Int32} {s : Nat → Int32} {B : Nat → Nat → Int32} {hs : Int64} {Q : pm_T} {n : Nat} {t : Nat → Int32} {fe fs : Int32} (hI : th_I S A) (hn : n < 2 ^ S 26) (ht : ∀ q, q < S 11 → t q = th_tt S A n q) (hQ : Q ad (some (.int (nI (th_ls S A n)))) (a0, a1, a2, a3, a4, a5, a6, a7, th_mg ad S A s (va_up B 17 t) hs fe fs)) : pm_C l G m_X12_liesOf [.ref (ad 8 0), .int (nI n)] ad (a0, a1, a2, a3, a4, a5, a6, a7, th_mg ad S A s (va_up B 17 t) hs fe fs) Q := c_X12_liesOf (s := upd (upd s 30 fe) 31 fs) hI hn ht hQ
theorem c_X3_followX {l : Launch} {G : pm_G} {ad : Nat → Nat → Nat} {S : Nat → Nat} {A : Nat → Nat → Int32} {X : Nat → Int32} {Y : Nat → Nat → Int32} {F : Nat → Int64} {Hd Cs : Nat → Option Nat} {m : List pm_A} {Q : pm_T} {n : Nat} {t0 : Nat → Int32} {fl fs : Int32} (hI : th_I S A) (hT : th_T S A Y) (hn : n < 1024) (h1 : th_ok? S A n = true → ∀ t, (∀ q, q < S 11 → t q = th_tt S A n q) → Q ad (some (.int 1)) (th_cx ad S A X (va_up Y 4 t) F Hd Cs m fl fs)) (h0 : th_ok? S A n = false → ∀ t, Q ad (some (.int 0)) (th_cx ad S A X (va_up Y 4 t) F Hd Cs m fl fs)) : pm_C l G m_X3_follow [.ref (ad 4 0), .int (nI n), .ref (ad 0 2), .int (nI (S 6))] ad (th_cx ad S A X (va_up Y 4 t0) F Hd Cs m fl fs) Q := c_X3_follow (X := upd (upd X 3 fl) 4 fs) (Y := va_up Y 4 t0) hI hT hn (fun a t ht => h1 a t ht) (fun a t => h0 a t)
theorem c_X3_liesOfX {l : Launch} {G : pm_G} {ad : Nat → Nat → Nat} {S : Nat → Nat} {A : Nat → Nat → Int32} {X : Nat → Int32} {Y : Nat → Nat → Int32} {F : Nat → Int64} {Hd Cs : Nat → Option Nat} {m : List pm_A} {Q : pm_T} {n : Nat} {t : Nat → Int32} {fl fs : Int32} (hI : th_I S A) (hn : n < 2 ^ S 26) (ht : ∀ q, q < S 11 → t q = th_tt S A n q) (hQ : Q ad (some (.int (nI (th_ls S A n)))) (th_cx ad S A X (va_up Y 4 t) F Hd Cs m fl fs)) : pm_C l G m_X3_liesOf [.ref (ad 4 0), .int (nI n), .ref (ad 0 2)] ad (th_cx ad S A X (va_up Y 4 t) F Hd Cs m fl fs) Q := c_X3_liesOf (X := upd (upd X 3 fl) 4 fs) hI hn ht hQ
set_option maxHeartbeats 600000 in
set_option maxRecDepth 100000 in
theorem b_X12_layFewest_none {l : Launch} {G : pm_G} {ad : Nat → Nat → Nat} {a0 a3 a4 a5 a6 a7 : List pm_A} {a1 a2 : Nat → Option pm_A} {S : Nat → Nat} {A : Nat → Nat → Int32} {s : Nat → Int32} {B : Nat → Nat → Int32} {hs : Int64} {Q : pm_T} {n : Nat} {t : Nat → Int32} (hI : th_I S A) (hn : n < 2 ^ S 26) (hp : th_fw S A n = none) (k : ∀ t, pm_W l G m_X12_layFewest ad 12 [(1, .int (nI (n + 1))), (0, .ref (ad 8 0))] [] (a0, a1, a2, a3, a4, a5, a6, a7, th_mg ad S A s (va_up B 17 t) hs (th_e1 (-1) (th_fw S A (n + 1))) (th_e2 (-1) (th_fw S A (n + 1)))) 0 0 Q) : pm_W l G m_X12_layFewest ad 12 [(1, .int (nI n)), (0, .ref (ad 8 0))] [] (a0, a1, a2, a3, a4, a5, a6, a7, th_mg ad S A s (va_up B 17 t) hs (-1) (-1)) 0 0 Q := by
  have h8 := hI.2.2.2.2.1.1
  have h10 := hI.2.2.2.2.2.1.1
  have hp2 := th_isp (n := 0) h10
  have hl := th_ls_le hI n
  have hbn := th_bits_lt hn 10
  refine pm_iload_n dX12_layFewest_12 rfl rfl ?_
  refine pm_iconst (v := 1) dX12_layFewest_13 (by decide) ?_
  refine pm_aload_n dX12_layFewest_14 rfl rfl ?_
  refine pm_get fl_RX12_193_12 dX12_layFewest_15 rfl rfl ?_
  refine pm_ishl dX12_layFewest_18 ?_
  rw [th_sh1 (S 26) (by omega)]
  refine pm_icmp_ge (tgt := 118) dX12_layFewest_19 (by decide) (fun c_19 => absurd c_19 (show ¬ nI (2 ^ S 26) ≤ nI n from by rw [nI_leI (by omega) (by omega)]; omega)) (fun c_19 => ?_)
  refine pm_aload_n dX12_layFewest_22 rfl rfl ?_
  refine pm_iload_n dX12_layFewest_23 rfl rfl ?_
  refine pm_callV (M2 := m_X12_layBy) (As := [_]) ok_X12_layBy (ci := 12) rfl kw_1224 kw_1226 kw_32 dX12_layFewest_24 rfl rfl rfl (Nat.le_of_ble_eq_true rfl) ⟨⟨Nat.le_of_ble_eq_true rfl, Nat.le_of_ble_eq_true rfl⟩, Nat.le_of_ble_eq_true rfl, Nat.le_of_ble_eq_true rfl⟩ ?_
  refine c_X12_layByG hI (by omega) (fun t ht => ?_)
  cases hk : th_ok? S A n
  · refine pm_if_eq (tgt := 112) dX12_layFewest_27 (by decide) (fun c_27 => ?_) (fun c_27 => absurd (rfl) c_27)
    refine pm_iinc (lv2 := [(1, _), (0, _)]) dX12_layFewest_112 rfl (nI_1 n) (Nat.le_of_ble_eq_true rfl) rfl ?_
    refine pm_goto (tgt := 12) dX12_layFewest_115 (by decide) ?_
    refine pm_pick [0, 1] rfl ?_
    have k2 := k t
    rw [th_fw0 hk, hp] at k2
    exact k2
  · refine pm_if_eq (tgt := 112) dX12_layFewest_27 (by decide) (fun c_27 => absurd c_27 (by decide)) (fun c_27 => ?_)
    refine pm_aload_n dX12_layFewest_30 rfl rfl ?_
    refine pm_iload_n dX12_layFewest_31 rfl rfl ?_
    refine pm_callV (M2 := m_X12_liesOf) (As := [_]) ok_X12_liesOf (ci := 12) rfl kw_1236 kw_1238 kw_34 dX12_layFewest_32 rfl rfl rfl (Nat.le_of_ble_eq_true rfl) ⟨⟨Nat.le_of_ble_eq_true rfl, Nat.le_of_ble_eq_true rfl⟩, Nat.le_of_ble_eq_true rfl, Nat.le_of_ble_eq_true rfl⟩ ?_
    refine c_X12_liesOfG hI hn ht ?_
    refine pm_istore_n (lv2 := [(2, _), (1, _), (0, _)]) dX12_layFewest_35 rfl (Nat.le_of_ble_eq_true rfl) rfl ?_
    refine pm_aload_n dX12_layFewest_36 rfl rfl ?_
    refine pm_get fl_RX12_204_12 dX12_layFewest_37 rfl rfl ?_
    refine pm_iconst (v := (-1)) dX12_layFewest_40 (by decide) ?_
    refine pm_icmp_eq (tgt := 74) dX12_layFewest_41 (by decide) (fun c_41 => ?_) (fun c_41 => absurd (rfl) c_41)
    refine pm_iconst (v := 1) dX12_layFewest_74 (by decide) ?_
    refine pm_goto (tgt := 79) dX12_layFewest_75 (by decide) ?_
    refine pm_istore_n (lv2 := [(3, _), (2, _), (1, _), (0, _)]) dX12_layFewest_79 rfl (Nat.le_of_ble_eq_true rfl) rfl ?_
    refine pm_aload_n dX12_layFewest_80 rfl rfl ?_
    refine pm_iload_n dX12_layFewest_81 rfl rfl ?_
    refine pm_if_eq (tgt := 89) dX12_layFewest_82 (by decide) (fun c_82 => absurd c_82 (by decide)) (fun c_82 => ?_)
    refine pm_iload_n dX12_layFewest_85 rfl rfl ?_
    refine pm_goto (tgt := 93) dX12_layFewest_86 (by decide) ?_
    refine pm_put (w2 := (_, _, _, _, _, _, _, _, [.inr (_, [_, _, _, _, _, _, _, _, _, _, _, _, _, _, _, _, _, _, _, _, _, _, _, _, _, _, _, _, _, _, _, _, _, _, _, _, _, _, _, _, _, _, _, _]), _, _, _, _, _, _, _, _, _, _, _, _, _, _, _, _, _, _, _, _, _, _, _])) fl_RX12_204_12 fp_12_30 dX12_layFewest_93 rfl rfl rfl (Nat.le_of_ble_eq_true rfl) rfl ?_
    refine pm_aload_n dX12_layFewest_96 rfl rfl ?_
    refine pm_iload_n dX12_layFewest_97 rfl rfl ?_
    refine pm_if_eq (tgt := 105) dX12_layFewest_98 (by decide) (fun c_98 => absurd c_98 (by decide)) (fun c_98 => ?_)
    refine pm_iload_n dX12_layFewest_101 rfl rfl ?_
    refine pm_goto (tgt := 109) dX12_layFewest_102 (by decide) ?_
    refine pm_put (w2 := (_, _, _, _, _, _, _, _, [.inr (_, [_, _, _, _, _, _, _, _, _, _, _, _, _, _, _, _, _, _, _, _, _, _, _, _, _, _, _, _, _, _, _, _, _, _, _, _, _, _, _, _, _, _, _, _]), _, _, _, _, _, _, _, _, _, _, _, _, _, _, _, _, _, _, _, _, _, _, _])) fl_RX12_207_12 fp_12_31 dX12_layFewest_109 rfl rfl rfl (Nat.le_of_ble_eq_true rfl) rfl ?_
    refine pm_iinc (lv2 := [(1, _), (3, _), (2, _), (0, _)]) dX12_layFewest_112 rfl (nI_1 n) (Nat.le_of_ble_eq_true rfl) rfl ?_
    refine pm_goto (tgt := 12) dX12_layFewest_115 (by decide) ?_
    refine pm_pick [0, 3] rfl ?_
    have k2 := k t
    rw [th_fwn hk hp] at k2
    exact k2

set_option maxHeartbeats 600000 in
set_option maxRecDepth 100000 in
theorem b_X12_layFewest_some {l : Launch} {G : pm_G} {ad : Nat → Nat → Nat} {a0 a3 a4 a5 a6 a7 : List pm_A} {a1 a2 : Nat → Option pm_A} {S : Nat → Nat} {A : Nat → Nat → Int32} {s : Nat → Int32} {B : Nat → Nat → Int32} {hs : Int64} {Q : pm_T} {n : Nat} {t : Nat → Int32} (hI : th_I S A) (hn : n < 2 ^ S 26) {a b : Nat} (hp : th_fw S A n = some (a, b)) (k : ∀ t, pm_W l G m_X12_layFewest ad 12 [(1, .int (nI (n + 1))), (0, .ref (ad 8 0))] [] (a0, a1, a2, a3, a4, a5, a6, a7, th_mg ad S A s (va_up B 17 t) hs (th_e1 (-1) (th_fw S A (n + 1))) (th_e2 (-1) (th_fw S A (n + 1)))) 0 0 Q) : pm_W l G m_X12_layFewest ad 12 [(1, .int (nI n)), (0, .ref (ad 8 0))] [] (a0, a1, a2, a3, a4, a5, a6, a7, th_mg ad S A s (va_up B 17 t) hs (nI a) (nI b)) 0 0 Q := by
  have h8 := hI.2.2.2.2.1.1
  have h10 := hI.2.2.2.2.2.1.1
  have hp2 := th_isp (n := 0) h10
  have hl := th_ls_le hI n
  have hbn := th_bits_lt hn 10
  have hf := th_fwi hI n
  rw [hp] at hf
  have ha : a ≤ 18 := hf.1
  have hb : b < n := hf.2
  have hbb := th_bits_lt (Nat.lt_trans hb hn) 10
  refine pm_iload_n dX12_layFewest_12 rfl rfl ?_
  refine pm_iconst (v := 1) dX12_layFewest_13 (by decide) ?_
  refine pm_aload_n dX12_layFewest_14 rfl rfl ?_
  refine pm_get fl_RX12_193_12 dX12_layFewest_15 rfl rfl ?_
  refine pm_ishl dX12_layFewest_18 ?_
  rw [th_sh1 (S 26) (by omega)]
  refine pm_icmp_ge (tgt := 118) dX12_layFewest_19 (by decide) (fun c_19 => absurd c_19 (show ¬ nI (2 ^ S 26) ≤ nI n from by rw [nI_leI (by omega) (by omega)]; omega)) (fun c_19 => ?_)
  refine pm_aload_n dX12_layFewest_22 rfl rfl ?_
  refine pm_iload_n dX12_layFewest_23 rfl rfl ?_
  refine pm_callV (M2 := m_X12_layBy) (As := [_]) ok_X12_layBy (ci := 12) rfl kw_1224 kw_1226 kw_32 dX12_layFewest_24 rfl rfl rfl (Nat.le_of_ble_eq_true rfl) ⟨⟨Nat.le_of_ble_eq_true rfl, Nat.le_of_ble_eq_true rfl⟩, Nat.le_of_ble_eq_true rfl, Nat.le_of_ble_eq_true rfl⟩ ?_
  refine c_X12_layByG hI (by omega) (fun t ht => ?_)
  cases hk : th_ok? S A n
  · refine pm_if_eq (tgt := 112) dX12_layFewest_27 (by decide) (fun c_27 => ?_) (fun c_27 => absurd (rfl) c_27)
    refine pm_iinc (lv2 := [(1, _), (0, _)]) dX12_layFewest_112 rfl (nI_1 n) (Nat.le_of_ble_eq_true rfl) rfl ?_
    refine pm_goto (tgt := 12) dX12_layFewest_115 (by decide) ?_
    refine pm_pick [0, 1] rfl ?_
    have k2 := k t
    rw [th_fw0 hk, hp] at k2
    exact k2
  · refine pm_if_eq (tgt := 112) dX12_layFewest_27 (by decide) (fun c_27 => absurd c_27 (by decide)) (fun c_27 => ?_)
    refine pm_aload_n dX12_layFewest_30 rfl rfl ?_
    refine pm_iload_n dX12_layFewest_31 rfl rfl ?_
    refine pm_callV (M2 := m_X12_liesOf) (As := [_]) ok_X12_liesOf (ci := 12) rfl kw_1236 kw_1238 kw_34 dX12_layFewest_32 rfl rfl rfl (Nat.le_of_ble_eq_true rfl) ⟨⟨Nat.le_of_ble_eq_true rfl, Nat.le_of_ble_eq_true rfl⟩, Nat.le_of_ble_eq_true rfl, Nat.le_of_ble_eq_true rfl⟩ ?_
    refine c_X12_liesOfG hI hn ht ?_
    refine pm_istore_n (lv2 := [(2, _), (1, _), (0, _)]) dX12_layFewest_35 rfl (Nat.le_of_ble_eq_true rfl) rfl ?_
    refine pm_aload_n dX12_layFewest_36 rfl rfl ?_
    refine pm_get fl_RX12_204_12 dX12_layFewest_37 rfl rfl ?_
    refine pm_iconst (v := (-1)) dX12_layFewest_40 (by decide) ?_
    refine pm_icmp_eq (tgt := 74) dX12_layFewest_41 (by decide) (fun c_41 => absurd c_41 (th_nm (by omega))) (fun c_41 => ?_)
    refine pm_iload_n dX12_layFewest_44 rfl rfl ?_
    refine pm_aload_n dX12_layFewest_45 rfl rfl ?_
    refine pm_get fl_RX12_204_12 dX12_layFewest_46 rfl rfl ?_
    refine pm_icmp_lt (tgt := 74) dX12_layFewest_49 (by decide) (fun c_49 => ?_) (fun c_49 => ?_)
    · refine pm_iconst (v := 1) dX12_layFewest_74 (by decide) ?_
      refine pm_goto (tgt := 79) dX12_layFewest_75 (by decide) ?_
      refine pm_istore_n (lv2 := [(3, _), (2, _), (1, _), (0, _)]) dX12_layFewest_79 rfl (Nat.le_of_ble_eq_true rfl) rfl ?_
      refine pm_aload_n dX12_layFewest_80 rfl rfl ?_
      refine pm_iload_n dX12_layFewest_81 rfl rfl ?_
      refine pm_if_eq (tgt := 89) dX12_layFewest_82 (by decide) (fun c_82 => absurd c_82 (by decide)) (fun c_82 => ?_)
      refine pm_iload_n dX12_layFewest_85 rfl rfl ?_
      refine pm_goto (tgt := 93) dX12_layFewest_86 (by decide) ?_
      refine pm_put (w2 := (_, _, _, _, _, _, _, _, [.inr (_, [_, _, _, _, _, _, _, _, _, _, _, _, _, _, _, _, _, _, _, _, _, _, _, _, _, _, _, _, _, _, _, _, _, _, _, _, _, _, _, _, _, _, _, _]), _, _, _, _, _, _, _, _, _, _, _, _, _, _, _, _, _, _, _, _, _, _, _])) fl_RX12_204_12 fp_12_30 dX12_layFewest_93 rfl rfl rfl (Nat.le_of_ble_eq_true rfl) rfl ?_
      refine pm_aload_n dX12_layFewest_96 rfl rfl ?_
      refine pm_iload_n dX12_layFewest_97 rfl rfl ?_
      refine pm_if_eq (tgt := 105) dX12_layFewest_98 (by decide) (fun c_98 => absurd c_98 (by decide)) (fun c_98 => ?_)
      refine pm_iload_n dX12_layFewest_101 rfl rfl ?_
      refine pm_goto (tgt := 109) dX12_layFewest_102 (by decide) ?_
      refine pm_put (w2 := (_, _, _, _, _, _, _, _, [.inr (_, [_, _, _, _, _, _, _, _, _, _, _, _, _, _, _, _, _, _, _, _, _, _, _, _, _, _, _, _, _, _, _, _, _, _, _, _, _, _, _, _, _, _, _, _]), _, _, _, _, _, _, _, _, _, _, _, _, _, _, _, _, _, _, _, _, _, _, _])) fl_RX12_207_12 fp_12_31 dX12_layFewest_109 rfl rfl rfl (Nat.le_of_ble_eq_true rfl) rfl ?_
      refine pm_iinc (lv2 := [(1, _), (3, _), (2, _), (0, _)]) dX12_layFewest_112 rfl (nI_1 n) (Nat.le_of_ble_eq_true rfl) rfl ?_
      refine pm_goto (tgt := 12) dX12_layFewest_115 (by decide) ?_
      refine pm_pick [0, 3] rfl ?_
      have k2 := k t
      rw [th_fwb hk hp (Or.inl ((nI_ltI (by omega) (by omega)).mp c_49))] at k2
      exact k2
    · refine pm_iload_n dX12_layFewest_52 rfl rfl ?_
      refine pm_aload_n dX12_layFewest_53 rfl rfl ?_
      refine pm_get fl_RX12_204_12 dX12_layFewest_54 rfl rfl ?_
      refine pm_icmp_ne (tgt := 78) dX12_layFewest_57 (by decide) (fun c_57 => ?_) (fun c_57 => ?_)
      · refine pm_iconst (v := 0) dX12_layFewest_78 (by decide) ?_
        refine pm_istore_n (lv2 := [(3, _), (2, _), (1, _), (0, _)]) dX12_layFewest_79 rfl (Nat.le_of_ble_eq_true rfl) rfl ?_
        refine pm_aload_n dX12_layFewest_80 rfl rfl ?_
        refine pm_iload_n dX12_layFewest_81 rfl rfl ?_
        refine pm_if_eq (tgt := 89) dX12_layFewest_82 (by decide) (fun c_82 => ?_) (fun c_82 => absurd (rfl) c_82)
        refine pm_aload_n dX12_layFewest_89 rfl rfl ?_
        refine pm_get fl_RX12_204_12 dX12_layFewest_90 rfl rfl ?_
        refine pm_put (w2 := (_, _, _, _, _, _, _, _, [.inr (_, [_, _, _, _, _, _, _, _, _, _, _, _, _, _, _, _, _, _, _, _, _, _, _, _, _, _, _, _, _, _, _, _, _, _, _, _, _, _, _, _, _, _, _, _]), _, _, _, _, _, _, _, _, _, _, _, _, _, _, _, _, _, _, _, _, _, _, _])) fl_RX12_204_12 fp_12_30 dX12_layFewest_93 rfl rfl rfl (Nat.le_of_ble_eq_true rfl) rfl ?_
        refine pm_aload_n dX12_layFewest_96 rfl rfl ?_
        refine pm_iload_n dX12_layFewest_97 rfl rfl ?_
        refine pm_if_eq (tgt := 105) dX12_layFewest_98 (by decide) (fun c_98 => ?_) (fun c_98 => absurd (rfl) c_98)
        refine pm_aload_n dX12_layFewest_105 rfl rfl ?_
        refine pm_get fl_RX12_207_12 dX12_layFewest_106 rfl rfl ?_
        refine pm_put (w2 := (_, _, _, _, _, _, _, _, [.inr (_, [_, _, _, _, _, _, _, _, _, _, _, _, _, _, _, _, _, _, _, _, _, _, _, _, _, _, _, _, _, _, _, _, _, _, _, _, _, _, _, _, _, _, _, _]), _, _, _, _, _, _, _, _, _, _, _, _, _, _, _, _, _, _, _, _, _, _, _])) fl_RX12_207_12 fp_12_31 dX12_layFewest_109 rfl rfl rfl (Nat.le_of_ble_eq_true rfl) rfl ?_
        refine pm_iinc (lv2 := [(1, _), (3, _), (2, _), (0, _)]) dX12_layFewest_112 rfl (nI_1 n) (Nat.le_of_ble_eq_true rfl) rfl ?_
        refine pm_goto (tgt := 12) dX12_layFewest_115 (by decide) ?_
        refine pm_pick [0, 3] rfl ?_
        have k2 := k t
        rw [th_fwk hk hp (fun z => z.elim (fun z => c_49 ((nI_ltI (by omega) (by omega)).mpr z)) (fun z => c_57 (by rw [z.1])))] at k2
        exact k2
      · refine pm_iload_n dX12_layFewest_60 rfl rfl ?_
        refine pm_callS (M2 := m_X12_bitsOf) (As := [_]) ok_X12_bitsOf kw_1240 kw_1241 dX12_layFewest_61 rfl rfl (Nat.le_of_ble_eq_true rfl) ⟨⟨Nat.le_of_ble_eq_true rfl, Nat.le_of_ble_eq_true rfl⟩, Nat.le_of_ble_eq_true rfl, Nat.le_of_ble_eq_true rfl⟩ ?_
        refine c_X12_bitsOf (by omega) ?_
        refine pm_aload_n dX12_layFewest_64 rfl rfl ?_
        refine pm_get fl_RX12_207_12 dX12_layFewest_65 rfl rfl ?_
        refine pm_callS (M2 := m_X12_bitsOf) (As := [_]) ok_X12_bitsOf kw_1240 kw_1241 dX12_layFewest_68 rfl rfl (Nat.le_of_ble_eq_true rfl) ⟨⟨Nat.le_of_ble_eq_true rfl, Nat.le_of_ble_eq_true rfl⟩, Nat.le_of_ble_eq_true rfl, Nat.le_of_ble_eq_true rfl⟩ ?_
        refine c_X12_bitsOf (by omega) ?_
        refine pm_icmp_le (tgt := 78) dX12_layFewest_71 (by decide) (fun c_71 => ?_) (fun c_71 => ?_)
        · refine pm_iconst (v := 0) dX12_layFewest_78 (by decide) ?_
          refine pm_istore_n (lv2 := [(3, _), (2, _), (1, _), (0, _)]) dX12_layFewest_79 rfl (Nat.le_of_ble_eq_true rfl) rfl ?_
          refine pm_aload_n dX12_layFewest_80 rfl rfl ?_
          refine pm_iload_n dX12_layFewest_81 rfl rfl ?_
          refine pm_if_eq (tgt := 89) dX12_layFewest_82 (by decide) (fun c_82 => ?_) (fun c_82 => absurd (rfl) c_82)
          refine pm_aload_n dX12_layFewest_89 rfl rfl ?_
          refine pm_get fl_RX12_204_12 dX12_layFewest_90 rfl rfl ?_
          refine pm_put (w2 := (_, _, _, _, _, _, _, _, [.inr (_, [_, _, _, _, _, _, _, _, _, _, _, _, _, _, _, _, _, _, _, _, _, _, _, _, _, _, _, _, _, _, _, _, _, _, _, _, _, _, _, _, _, _, _, _]), _, _, _, _, _, _, _, _, _, _, _, _, _, _, _, _, _, _, _, _, _, _, _])) fl_RX12_204_12 fp_12_30 dX12_layFewest_93 rfl rfl rfl (Nat.le_of_ble_eq_true rfl) rfl ?_
          refine pm_aload_n dX12_layFewest_96 rfl rfl ?_
          refine pm_iload_n dX12_layFewest_97 rfl rfl ?_
          refine pm_if_eq (tgt := 105) dX12_layFewest_98 (by decide) (fun c_98 => ?_) (fun c_98 => absurd (rfl) c_98)
          refine pm_aload_n dX12_layFewest_105 rfl rfl ?_
          refine pm_get fl_RX12_207_12 dX12_layFewest_106 rfl rfl ?_
          refine pm_put (w2 := (_, _, _, _, _, _, _, _, [.inr (_, [_, _, _, _, _, _, _, _, _, _, _, _, _, _, _, _, _, _, _, _, _, _, _, _, _, _, _, _, _, _, _, _, _, _, _, _, _, _, _, _, _, _, _, _]), _, _, _, _, _, _, _, _, _, _, _, _, _, _, _, _, _, _, _, _, _, _, _])) fl_RX12_207_12 fp_12_31 dX12_layFewest_109 rfl rfl rfl (Nat.le_of_ble_eq_true rfl) rfl ?_
          refine pm_iinc (lv2 := [(1, _), (3, _), (2, _), (0, _)]) dX12_layFewest_112 rfl (nI_1 n) (Nat.le_of_ble_eq_true rfl) rfl ?_
          refine pm_goto (tgt := 12) dX12_layFewest_115 (by decide) ?_
          refine pm_pick [0, 3] rfl ?_
          have k2 := k t
          rw [th_fwk hk hp (fun z => z.elim (fun z => c_49 ((nI_ltI (by omega) (by omega)).mpr z)) (fun z => absurd ((nI_leI (by omega) (by omega)).mp c_71) (by omega)))] at k2
          exact k2
        · refine pm_iconst (v := 1) dX12_layFewest_74 (by decide) ?_
          refine pm_goto (tgt := 79) dX12_layFewest_75 (by decide) ?_
          refine pm_istore_n (lv2 := [(3, _), (2, _), (1, _), (0, _)]) dX12_layFewest_79 rfl (Nat.le_of_ble_eq_true rfl) rfl ?_
          refine pm_aload_n dX12_layFewest_80 rfl rfl ?_
          refine pm_iload_n dX12_layFewest_81 rfl rfl ?_
          refine pm_if_eq (tgt := 89) dX12_layFewest_82 (by decide) (fun c_82 => absurd c_82 (by decide)) (fun c_82 => ?_)
          refine pm_iload_n dX12_layFewest_85 rfl rfl ?_
          refine pm_goto (tgt := 93) dX12_layFewest_86 (by decide) ?_
          refine pm_put (w2 := (_, _, _, _, _, _, _, _, [.inr (_, [_, _, _, _, _, _, _, _, _, _, _, _, _, _, _, _, _, _, _, _, _, _, _, _, _, _, _, _, _, _, _, _, _, _, _, _, _, _, _, _, _, _, _, _]), _, _, _, _, _, _, _, _, _, _, _, _, _, _, _, _, _, _, _, _, _, _, _])) fl_RX12_204_12 fp_12_30 dX12_layFewest_93 rfl rfl rfl (Nat.le_of_ble_eq_true rfl) rfl ?_
          refine pm_aload_n dX12_layFewest_96 rfl rfl ?_
          refine pm_iload_n dX12_layFewest_97 rfl rfl ?_
          refine pm_if_eq (tgt := 105) dX12_layFewest_98 (by decide) (fun c_98 => absurd c_98 (by decide)) (fun c_98 => ?_)
          refine pm_iload_n dX12_layFewest_101 rfl rfl ?_
          refine pm_goto (tgt := 109) dX12_layFewest_102 (by decide) ?_
          refine pm_put (w2 := (_, _, _, _, _, _, _, _, [.inr (_, [_, _, _, _, _, _, _, _, _, _, _, _, _, _, _, _, _, _, _, _, _, _, _, _, _, _, _, _, _, _, _, _, _, _, _, _, _, _, _, _, _, _, _, _]), _, _, _, _, _, _, _, _, _, _, _, _, _, _, _, _, _, _, _, _, _, _, _])) fl_RX12_207_12 fp_12_31 dX12_layFewest_109 rfl rfl rfl (Nat.le_of_ble_eq_true rfl) rfl ?_
          refine pm_iinc (lv2 := [(1, _), (3, _), (2, _), (0, _)]) dX12_layFewest_112 rfl (nI_1 n) (Nat.le_of_ble_eq_true rfl) rfl ?_
          refine pm_goto (tgt := 12) dX12_layFewest_115 (by decide) ?_
          refine pm_pick [0, 3] rfl ?_
          have k2 := k t
          rw [th_fwb hk hp (Or.inr ⟨(nI_eq (by omega) (by omega)).mp c_57, Nat.lt_of_not_le (fun z => c_71 ((nI_leI (by omega) (by omega)).mpr z))⟩)] at k2
          exact k2

set_option maxHeartbeats 600000 in
set_option maxRecDepth 100000 in
theorem c_X12_layFewest {l : Launch} {G : pm_G} {ad : Nat → Nat → Nat} {a0 a3 a4 a5 a6 a7 : List pm_A} {a1 a2 : Nat → Option pm_A} {S : Nat → Nat} {A : Nat → Nat → Int32} {s : Nat → Int32} {B : Nat → Nat → Int32} {hs : Int64} {Q : pm_T} (hI : th_I S A) (hQ : ∀ t p, th_fw S A (2 ^ S 26) = some p → Q ad none (a0, a1, a2, a3, a4, a5, a6, a7, th_mg ad S A s (va_up B 17 t) hs (nI p.1) (nI p.2))) : pm_C l G m_X12_layFewest [.ref (ad 8 0)] ad (a0, a1, a2, a3, a4, a5, a6, a7, th_mp ad S A s B hs) Q := by
  have h8 := hI.2.2.2.2.1.1
  have h10 := hI.2.2.2.2.2.1.1
  have hp2 := th_isp (n := 0) h10
  refine pm_met (by decide) (Nat.le_of_ble_eq_true rfl) ?_
  refine pm_aload_n dX12_layFewest_0 rfl rfl ?_
  refine pm_iconst (v := (-1)) dX12_layFewest_1 (by decide) ?_
  refine pm_put (w2 := (_, _, _, _, _, _, _, _, [.inr (_, [_, _, _, _, _, _, _, _, _, _, _, _, _, _, _, _, _, _, _, _, _, _, _, _, _, _, _, _, _, _, _, _, _, _, _, _, _, _, _, _, _, _, _, _]), _, _, _, _, _, _, _, _, _, _, _, _, _, _, _, _, _, _, _, _, _, _, _])) fl_RX12_204_12 fp_12_30 dX12_layFewest_2 rfl rfl rfl (Nat.le_of_ble_eq_true rfl) rfl ?_
  refine pm_aload_n dX12_layFewest_5 rfl rfl ?_
  refine pm_iconst (v := (-1)) dX12_layFewest_6 (by decide) ?_
  refine pm_put (w2 := (_, _, _, _, _, _, _, _, [.inr (_, [_, _, _, _, _, _, _, _, _, _, _, _, _, _, _, _, _, _, _, _, _, _, _, _, _, _, _, _, _, _, _, _, _, _, _, _, _, _, _, _, _, _, _, _]), _, _, _, _, _, _, _, _, _, _, _, _, _, _, _, _, _, _, _, _, _, _, _])) fl_RX12_207_12 fp_12_31 dX12_layFewest_7 rfl rfl rfl (Nat.le_of_ble_eq_true rfl) rfl ?_
  refine pm_iconst (v := 0) dX12_layFewest_10 (by decide) ?_
  refine pm_istore_n (lv2 := [(1, _), (0, _)]) dX12_layFewest_11 rfl (Nat.le_of_ble_eq_true rfl) rfl ?_
  suffices H : ∀ n, n ≤ 2 ^ S 26 → ∀ t, pm_W l G m_X12_layFewest ad 12 [(1, .int (nI n)), (0, .ref (ad 8 0))] [] (a0, a1, a2, a3, a4, a5, a6, a7, th_mg ad S A s (va_up B 17 t) hs (th_e1 (-1) (th_fw S A n)) (th_e2 (-1) (th_fw S A n))) 0 0 Q from H 0 (Nat.zero_le _) (B 17)
  refine th_loop _ ?_
  intro n hn k t
  by_cases hlt : n < 2 ^ S 26
  · cases hp : th_fw S A n with
    | none => exact b_X12_layFewest_none hI hlt hp (k hlt)
    | some p => exact b_X12_layFewest_some hI hlt hp (k hlt)
  have he : n = 2 ^ S 26 := by omega
  obtain ⟨p, hp⟩ := th_fws S A (2 ^ S 26 - 1)
  rw [show 2 ^ S 26 - 1 + 1 = 2 ^ S 26 by have := Nat.pow_pos (n := S 26) (show 0 < 2 by decide); omega] at hp
  rw [he, hp]
  refine pm_iload_n dX12_layFewest_12 rfl rfl ?_
  refine pm_iconst (v := 1) dX12_layFewest_13 (by decide) ?_
  refine pm_aload_n dX12_layFewest_14 rfl rfl ?_
  refine pm_get fl_RX12_193_12 dX12_layFewest_15 rfl rfl ?_
  refine pm_ishl dX12_layFewest_18 ?_
  rw [th_sh1 (S 26) (by omega)]
  refine pm_icmp_ge (tgt := 118) dX12_layFewest_19 (by decide) (fun c_19 => ?_) (fun c_19 => absurd (Int32.le_refl _) c_19)
  refine pm_vret dX12_layFewest_118 rfl rfl rfl ?_
  exact hQ t p hp

set_option maxHeartbeats 600000 in
set_option maxRecDepth 100000 in
theorem b_X3_ffl_none {l : Launch} {G : pm_G} {ad : Nat → Nat → Nat} {S : Nat → Nat} {A : Nat → Nat → Int32} {X : Nat → Int32} {Y : Nat → Nat → Int32} {F : Nat → Int64} {Hd Cs : Nat → Option Nat} {m : List pm_A} {Q : pm_T} {n : Nat} {t : Nat → Int32} (hI : th_I S A) (hT : th_T S A Y) (hn : n < 2 ^ S 26) (hp : th_fw S A n = none) (k : ∀ t, pm_W l G m_X3_findFewestLies ad 13 [(3, .int (nI (n + 1))), (0, .ref (ad 4 0)), (1, .ref (ad 0 2)), (2, .int (nI (S 6)))] [] (th_cx ad S A X (va_up Y 4 t) F Hd Cs m (th_e1 19 (th_fw S A (n + 1))) (th_e2 (nI 0) (th_fw S A (n + 1)))) 0 0 Q) : pm_W l G m_X3_findFewestLies ad 13 [(3, .int (nI n)), (0, .ref (ad 4 0)), (1, .ref (ad 0 2)), (2, .int (nI (S 6)))] [] (th_cx ad S A X (va_up Y 4 t) F Hd Cs m 19 (nI 0)) 0 0 Q := by
  have h8 := hI.2.2.2.2.1.1
  have h10 := hI.2.2.2.2.2.1.1
  have hp2 := th_isp (n := 0) h10
  have hl := th_ls_le hI n
  have hbn := th_bits_lt hn 10
  refine pm_iload_n dX3_findFewestLies_13 rfl rfl ?_
  refine pm_iconst (v := 1) dX3_findFewestLies_14 (by decide) ?_
  refine pm_aload_n dX3_findFewestLies_15 rfl rfl ?_
  refine pm_get fl_RX3_24_3 dX3_findFewestLies_16 rfl rfl ?_
  refine pm_ishl dX3_findFewestLies_19 ?_
  rw [th_sh1 (S 26) (by omega)]
  refine pm_icmp_ge (tgt := 102) dX3_findFewestLies_20 (by decide) (fun c_20 => absurd c_20 (show ¬ nI (2 ^ S 26) ≤ nI n from by rw [nI_leI (by omega) (by omega)]; omega)) (fun c_20 => ?_)
  refine pm_aload_n dX3_findFewestLies_23 rfl rfl ?_
  refine pm_iload_n dX3_findFewestLies_24 rfl rfl ?_
  refine pm_aload_n dX3_findFewestLies_25 rfl rfl ?_
  refine pm_iload_n dX3_findFewestLies_26 rfl rfl ?_
  refine pm_callV (M2 := m_X3_follow) (As := [_, _, _]) ok_X3_follow (ci := 3) rfl kw_695 kw_675 kw_676 dX3_findFewestLies_27 rfl rfl rfl (Nat.le_of_ble_eq_true rfl) ⟨⟨Nat.le_of_ble_eq_true rfl, Nat.le_of_ble_eq_true rfl⟩, Nat.le_of_ble_eq_true rfl, Nat.le_of_ble_eq_true rfl⟩ ?_
  refine c_X3_followX hI hT (by omega) (fun hk t ht => ?_) (fun hk t => ?_)
  · refine pm_if_eq (tgt := 96) dX3_findFewestLies_30 (by decide) (fun c_30 => absurd c_30 (by decide)) (fun c_30 => ?_)
    refine pm_aload_n dX3_findFewestLies_33 rfl rfl ?_
    refine pm_iload_n dX3_findFewestLies_34 rfl rfl ?_
    refine pm_aload_n dX3_findFewestLies_35 rfl rfl ?_
    refine pm_callV (M2 := m_X3_liesOf) (As := [_, _]) ok_X3_liesOf (ci := 3) rfl kw_696 kw_698 kw_9 dX3_findFewestLies_36 rfl rfl rfl (Nat.le_of_ble_eq_true rfl) ⟨⟨Nat.le_of_ble_eq_true rfl, Nat.le_of_ble_eq_true rfl⟩, Nat.le_of_ble_eq_true rfl, Nat.le_of_ble_eq_true rfl⟩ ?_
    refine c_X3_liesOfX hI hn ht ?_
    refine pm_istore (lv2 := [(4, _), (3, _), (0, _), (1, _), (2, _)]) dX3_findFewestLies_39 (Nat.le_of_ble_eq_true rfl) rfl ?_
    refine pm_iload_n dX3_findFewestLies_41 rfl rfl ?_
    refine pm_callS (M2 := m_J6_bitCount_0f7a4) (As := [_]) ok_J6_bitCount_0f7a4 kw_700 kw_701 dX3_findFewestLies_42 rfl rfl (Nat.le_of_ble_eq_true rfl) ⟨⟨Nat.le_of_ble_eq_true rfl, Nat.le_of_ble_eq_true rfl⟩, Nat.le_of_ble_eq_true rfl, Nat.le_of_ble_eq_true rfl⟩ ?_
    refine c_bitCount (by omega) ?_
    refine pm_aload_n dX3_findFewestLies_45 rfl rfl ?_
    refine pm_get fl_RX3_65_3 dX3_findFewestLies_46 rfl rfl ?_
    refine pm_callS (M2 := m_J6_bitCount_0f7a4) (As := [_]) ok_J6_bitCount_0f7a4 kw_700 kw_701 dX3_findFewestLies_49 rfl rfl (Nat.le_of_ble_eq_true rfl) ⟨⟨Nat.le_of_ble_eq_true rfl, Nat.le_of_ble_eq_true rfl⟩, Nat.le_of_ble_eq_true rfl, Nat.le_of_ble_eq_true rfl⟩ ?_
    refine c_bitCount (by omega) ?_
    refine pm_icmp_le (tgt := 59) dX3_findFewestLies_52 (by decide) (fun c_52 => ?_) (fun c_52 => ?_)
    · refine pm_iconst (v := 0) dX3_findFewestLies_59 (by decide) ?_
      refine pm_istore (lv2 := [(5, _), (4, _), (3, _), (0, _), (1, _), (2, _)]) dX3_findFewestLies_60 (Nat.le_of_ble_eq_true rfl) rfl ?_
      refine pm_iload dX3_findFewestLies_62 rfl ?_
      refine pm_aload_n dX3_findFewestLies_64 rfl rfl ?_
      refine pm_get fl_RX3_62_3 dX3_findFewestLies_65 rfl rfl ?_
      refine pm_icmp_lt (tgt := 85) dX3_findFewestLies_68 (by decide) (fun c_68 => ?_) (fun c_68 => absurd (show nI (th_ls S A n) < nI 19 from (nI_ltI (by omega) (by decide)).mpr (by omega)) c_68)
      refine pm_aload_n dX3_findFewestLies_85 rfl rfl ?_
      refine pm_iload dX3_findFewestLies_86 rfl ?_
      refine pm_put (w2 := (_, _, _, _, [.inr (_, [_, _, _, _, _, _, _, _]), _, _, _, _], _, _, _, _)) fl_RX3_62_3 fp_3_1 dX3_findFewestLies_88 rfl rfl rfl (Nat.le_of_ble_eq_true rfl) rfl ?_
      refine pm_aload_n dX3_findFewestLies_91 rfl rfl ?_
      refine pm_iload_n dX3_findFewestLies_92 rfl rfl ?_
      refine pm_put (w2 := (_, _, _, _, [.inr (_, [_, _, _, _, _, _, _, _]), _, _, _, _], _, _, _, _)) fl_RX3_65_3 fp_3_2 dX3_findFewestLies_93 rfl rfl rfl (Nat.le_of_ble_eq_true rfl) rfl ?_
      refine pm_iinc (lv2 := [(3, _), (5, _), (4, _), (0, _), (1, _), (2, _)]) dX3_findFewestLies_96 rfl (nI_1 n) (Nat.le_of_ble_eq_true rfl) rfl ?_
      refine pm_goto (tgt := 13) dX3_findFewestLies_99 (by decide) ?_
      refine pm_pick [0, 3, 4, 5] rfl ?_
      have k2 := k t
      rw [th_fwn hk hp] at k2
      exact k2
    · refine pm_iconst (v := 1) dX3_findFewestLies_55 (by decide) ?_
      refine pm_goto (tgt := 60) dX3_findFewestLies_56 (by decide) ?_
      refine pm_istore (lv2 := [(5, _), (4, _), (3, _), (0, _), (1, _), (2, _)]) dX3_findFewestLies_60 (Nat.le_of_ble_eq_true rfl) rfl ?_
      refine pm_iload dX3_findFewestLies_62 rfl ?_
      refine pm_aload_n dX3_findFewestLies_64 rfl rfl ?_
      refine pm_get fl_RX3_62_3 dX3_findFewestLies_65 rfl rfl ?_
      refine pm_icmp_lt (tgt := 85) dX3_findFewestLies_68 (by decide) (fun c_68 => ?_) (fun c_68 => absurd (show nI (th_ls S A n) < nI 19 from (nI_ltI (by omega) (by decide)).mpr (by omega)) c_68)
      refine pm_aload_n dX3_findFewestLies_85 rfl rfl ?_
      refine pm_iload dX3_findFewestLies_86 rfl ?_
      refine pm_put (w2 := (_, _, _, _, [.inr (_, [_, _, _, _, _, _, _, _]), _, _, _, _], _, _, _, _)) fl_RX3_62_3 fp_3_1 dX3_findFewestLies_88 rfl rfl rfl (Nat.le_of_ble_eq_true rfl) rfl ?_
      refine pm_aload_n dX3_findFewestLies_91 rfl rfl ?_
      refine pm_iload_n dX3_findFewestLies_92 rfl rfl ?_
      refine pm_put (w2 := (_, _, _, _, [.inr (_, [_, _, _, _, _, _, _, _]), _, _, _, _], _, _, _, _)) fl_RX3_65_3 fp_3_2 dX3_findFewestLies_93 rfl rfl rfl (Nat.le_of_ble_eq_true rfl) rfl ?_
      refine pm_iinc (lv2 := [(3, _), (5, _), (4, _), (0, _), (1, _), (2, _)]) dX3_findFewestLies_96 rfl (nI_1 n) (Nat.le_of_ble_eq_true rfl) rfl ?_
      refine pm_goto (tgt := 13) dX3_findFewestLies_99 (by decide) ?_
      refine pm_pick [0, 3, 4, 5] rfl ?_
      have k2 := k t
      rw [th_fwn hk hp] at k2
      exact k2
  · refine pm_if_eq (tgt := 96) dX3_findFewestLies_30 (by decide) (fun c_30 => ?_) (fun c_30 => absurd (rfl) c_30)
    refine pm_iinc (lv2 := [(3, _), (0, _), (1, _), (2, _)]) dX3_findFewestLies_96 rfl (nI_1 n) (Nat.le_of_ble_eq_true rfl) rfl ?_
    refine pm_goto (tgt := 13) dX3_findFewestLies_99 (by decide) ?_
    refine pm_pick [0, 1, 2, 3] rfl ?_
    have k2 := k t
    rw [th_fw0 hk, hp] at k2
    exact k2

set_option maxHeartbeats 600000 in
set_option maxRecDepth 100000 in
theorem b_X3_ffl_some {l : Launch} {G : pm_G} {ad : Nat → Nat → Nat} {S : Nat → Nat} {A : Nat → Nat → Int32} {X : Nat → Int32} {Y : Nat → Nat → Int32} {F : Nat → Int64} {Hd Cs : Nat → Option Nat} {m : List pm_A} {Q : pm_T} {n : Nat} {t : Nat → Int32} (hI : th_I S A) (hT : th_T S A Y) (hn : n < 2 ^ S 26) {a b : Nat} (hp : th_fw S A n = some (a, b)) (k : ∀ t, pm_W l G m_X3_findFewestLies ad 13 [(3, .int (nI (n + 1))), (0, .ref (ad 4 0)), (1, .ref (ad 0 2)), (2, .int (nI (S 6)))] [] (th_cx ad S A X (va_up Y 4 t) F Hd Cs m (th_e1 19 (th_fw S A (n + 1))) (th_e2 (nI 0) (th_fw S A (n + 1)))) 0 0 Q) : pm_W l G m_X3_findFewestLies ad 13 [(3, .int (nI n)), (0, .ref (ad 4 0)), (1, .ref (ad 0 2)), (2, .int (nI (S 6)))] [] (th_cx ad S A X (va_up Y 4 t) F Hd Cs m (nI a) (nI b)) 0 0 Q := by
  have h8 := hI.2.2.2.2.1.1
  have h10 := hI.2.2.2.2.2.1.1
  have hp2 := th_isp (n := 0) h10
  have hl := th_ls_le hI n
  have hbn := th_bits_lt hn 10
  have hf := th_fwi hI n
  rw [hp] at hf
  have ha : a ≤ 18 := hf.1
  have hb : b < n := hf.2
  have hbb := th_bits_lt (Nat.lt_trans hb hn) 10
  refine pm_iload_n dX3_findFewestLies_13 rfl rfl ?_
  refine pm_iconst (v := 1) dX3_findFewestLies_14 (by decide) ?_
  refine pm_aload_n dX3_findFewestLies_15 rfl rfl ?_
  refine pm_get fl_RX3_24_3 dX3_findFewestLies_16 rfl rfl ?_
  refine pm_ishl dX3_findFewestLies_19 ?_
  rw [th_sh1 (S 26) (by omega)]
  refine pm_icmp_ge (tgt := 102) dX3_findFewestLies_20 (by decide) (fun c_20 => absurd c_20 (show ¬ nI (2 ^ S 26) ≤ nI n from by rw [nI_leI (by omega) (by omega)]; omega)) (fun c_20 => ?_)
  refine pm_aload_n dX3_findFewestLies_23 rfl rfl ?_
  refine pm_iload_n dX3_findFewestLies_24 rfl rfl ?_
  refine pm_aload_n dX3_findFewestLies_25 rfl rfl ?_
  refine pm_iload_n dX3_findFewestLies_26 rfl rfl ?_
  refine pm_callV (M2 := m_X3_follow) (As := [_, _, _]) ok_X3_follow (ci := 3) rfl kw_695 kw_675 kw_676 dX3_findFewestLies_27 rfl rfl rfl (Nat.le_of_ble_eq_true rfl) ⟨⟨Nat.le_of_ble_eq_true rfl, Nat.le_of_ble_eq_true rfl⟩, Nat.le_of_ble_eq_true rfl, Nat.le_of_ble_eq_true rfl⟩ ?_
  refine c_X3_followX hI hT (by omega) (fun hk t ht => ?_) (fun hk t => ?_)
  · refine pm_if_eq (tgt := 96) dX3_findFewestLies_30 (by decide) (fun c_30 => absurd c_30 (by decide)) (fun c_30 => ?_)
    refine pm_aload_n dX3_findFewestLies_33 rfl rfl ?_
    refine pm_iload_n dX3_findFewestLies_34 rfl rfl ?_
    refine pm_aload_n dX3_findFewestLies_35 rfl rfl ?_
    refine pm_callV (M2 := m_X3_liesOf) (As := [_, _]) ok_X3_liesOf (ci := 3) rfl kw_696 kw_698 kw_9 dX3_findFewestLies_36 rfl rfl rfl (Nat.le_of_ble_eq_true rfl) ⟨⟨Nat.le_of_ble_eq_true rfl, Nat.le_of_ble_eq_true rfl⟩, Nat.le_of_ble_eq_true rfl, Nat.le_of_ble_eq_true rfl⟩ ?_
    refine c_X3_liesOfX hI hn ht ?_
    refine pm_istore (lv2 := [(4, _), (3, _), (0, _), (1, _), (2, _)]) dX3_findFewestLies_39 (Nat.le_of_ble_eq_true rfl) rfl ?_
    refine pm_iload_n dX3_findFewestLies_41 rfl rfl ?_
    refine pm_callS (M2 := m_J6_bitCount_0f7a4) (As := [_]) ok_J6_bitCount_0f7a4 kw_700 kw_701 dX3_findFewestLies_42 rfl rfl (Nat.le_of_ble_eq_true rfl) ⟨⟨Nat.le_of_ble_eq_true rfl, Nat.le_of_ble_eq_true rfl⟩, Nat.le_of_ble_eq_true rfl, Nat.le_of_ble_eq_true rfl⟩ ?_
    refine c_bitCount (by omega) ?_
    refine pm_aload_n dX3_findFewestLies_45 rfl rfl ?_
    refine pm_get fl_RX3_65_3 dX3_findFewestLies_46 rfl rfl ?_
    refine pm_callS (M2 := m_J6_bitCount_0f7a4) (As := [_]) ok_J6_bitCount_0f7a4 kw_700 kw_701 dX3_findFewestLies_49 rfl rfl (Nat.le_of_ble_eq_true rfl) ⟨⟨Nat.le_of_ble_eq_true rfl, Nat.le_of_ble_eq_true rfl⟩, Nat.le_of_ble_eq_true rfl, Nat.le_of_ble_eq_true rfl⟩ ?_
    refine c_bitCount (by omega) ?_
    refine pm_icmp_le (tgt := 59) dX3_findFewestLies_52 (by decide) (fun c_52 => ?_) (fun c_52 => ?_)
    · refine pm_iconst (v := 0) dX3_findFewestLies_59 (by decide) ?_
      refine pm_istore (lv2 := [(5, _), (4, _), (3, _), (0, _), (1, _), (2, _)]) dX3_findFewestLies_60 (Nat.le_of_ble_eq_true rfl) rfl ?_
      refine pm_iload dX3_findFewestLies_62 rfl ?_
      refine pm_aload_n dX3_findFewestLies_64 rfl rfl ?_
      refine pm_get fl_RX3_62_3 dX3_findFewestLies_65 rfl rfl ?_
      refine pm_icmp_lt (tgt := 85) dX3_findFewestLies_68 (by decide) (fun c_68 => ?_) (fun c_68 => ?_)
      · refine pm_aload_n dX3_findFewestLies_85 rfl rfl ?_
        refine pm_iload dX3_findFewestLies_86 rfl ?_
        refine pm_put (w2 := (_, _, _, _, [.inr (_, [_, _, _, _, _, _, _, _]), _, _, _, _], _, _, _, _)) fl_RX3_62_3 fp_3_1 dX3_findFewestLies_88 rfl rfl rfl (Nat.le_of_ble_eq_true rfl) rfl ?_
        refine pm_aload_n dX3_findFewestLies_91 rfl rfl ?_
        refine pm_iload_n dX3_findFewestLies_92 rfl rfl ?_
        refine pm_put (w2 := (_, _, _, _, [.inr (_, [_, _, _, _, _, _, _, _]), _, _, _, _], _, _, _, _)) fl_RX3_65_3 fp_3_2 dX3_findFewestLies_93 rfl rfl rfl (Nat.le_of_ble_eq_true rfl) rfl ?_
        refine pm_iinc (lv2 := [(3, _), (5, _), (4, _), (0, _), (1, _), (2, _)]) dX3_findFewestLies_96 rfl (nI_1 n) (Nat.le_of_ble_eq_true rfl) rfl ?_
        refine pm_goto (tgt := 13) dX3_findFewestLies_99 (by decide) ?_
        refine pm_pick [0, 3, 4, 5] rfl ?_
        have k2 := k t
        rw [th_fwb hk hp (Or.inl ((nI_ltI (by omega) (by omega)).mp c_68))] at k2
        exact k2
      · refine pm_iload dX3_findFewestLies_71 rfl ?_
        refine pm_aload_n dX3_findFewestLies_73 rfl rfl ?_
        refine pm_get fl_RX3_62_3 dX3_findFewestLies_74 rfl rfl ?_
        refine pm_icmp_ne (tgt := 96) dX3_findFewestLies_77 (by decide) (fun c_77 => ?_) (fun c_77 => ?_)
        · refine pm_iinc (lv2 := [(3, _), (5, _), (4, _), (0, _), (1, _), (2, _)]) dX3_findFewestLies_96 rfl (nI_1 n) (Nat.le_of_ble_eq_true rfl) rfl ?_
          refine pm_goto (tgt := 13) dX3_findFewestLies_99 (by decide) ?_
          refine pm_pick [0, 3, 4, 5] rfl ?_
          have k2 := k t
          rw [th_fwk hk hp (fun z => z.elim (fun z => c_68 ((nI_ltI (by omega) (by omega)).mpr z)) (fun z => c_77 (by rw [z.1])))] at k2
          exact k2
        · refine pm_iload dX3_findFewestLies_80 rfl ?_
          refine pm_if_eq (tgt := 96) dX3_findFewestLies_82 (by decide) (fun c_82 => ?_) (fun c_82 => absurd (rfl) c_82)
          refine pm_iinc (lv2 := [(3, _), (5, _), (4, _), (0, _), (1, _), (2, _)]) dX3_findFewestLies_96 rfl (nI_1 n) (Nat.le_of_ble_eq_true rfl) rfl ?_
          refine pm_goto (tgt := 13) dX3_findFewestLies_99 (by decide) ?_
          refine pm_pick [0, 3, 4, 5] rfl ?_
          have k2 := k t
          rw [th_fwk hk hp (fun z => z.elim (fun z => c_68 ((nI_ltI (by omega) (by omega)).mpr z)) (fun z => absurd ((nI_leI (by omega) (by omega)).mp c_52) (by omega)))] at k2
          exact k2
    · refine pm_iconst (v := 1) dX3_findFewestLies_55 (by decide) ?_
      refine pm_goto (tgt := 60) dX3_findFewestLies_56 (by decide) ?_
      refine pm_istore (lv2 := [(5, _), (4, _), (3, _), (0, _), (1, _), (2, _)]) dX3_findFewestLies_60 (Nat.le_of_ble_eq_true rfl) rfl ?_
      refine pm_iload dX3_findFewestLies_62 rfl ?_
      refine pm_aload_n dX3_findFewestLies_64 rfl rfl ?_
      refine pm_get fl_RX3_62_3 dX3_findFewestLies_65 rfl rfl ?_
      refine pm_icmp_lt (tgt := 85) dX3_findFewestLies_68 (by decide) (fun c_68 => ?_) (fun c_68 => ?_)
      · refine pm_aload_n dX3_findFewestLies_85 rfl rfl ?_
        refine pm_iload dX3_findFewestLies_86 rfl ?_
        refine pm_put (w2 := (_, _, _, _, [.inr (_, [_, _, _, _, _, _, _, _]), _, _, _, _], _, _, _, _)) fl_RX3_62_3 fp_3_1 dX3_findFewestLies_88 rfl rfl rfl (Nat.le_of_ble_eq_true rfl) rfl ?_
        refine pm_aload_n dX3_findFewestLies_91 rfl rfl ?_
        refine pm_iload_n dX3_findFewestLies_92 rfl rfl ?_
        refine pm_put (w2 := (_, _, _, _, [.inr (_, [_, _, _, _, _, _, _, _]), _, _, _, _], _, _, _, _)) fl_RX3_65_3 fp_3_2 dX3_findFewestLies_93 rfl rfl rfl (Nat.le_of_ble_eq_true rfl) rfl ?_
        refine pm_iinc (lv2 := [(3, _), (5, _), (4, _), (0, _), (1, _), (2, _)]) dX3_findFewestLies_96 rfl (nI_1 n) (Nat.le_of_ble_eq_true rfl) rfl ?_
        refine pm_goto (tgt := 13) dX3_findFewestLies_99 (by decide) ?_
        refine pm_pick [0, 3, 4, 5] rfl ?_
        have k2 := k t
        rw [th_fwb hk hp (Or.inl ((nI_ltI (by omega) (by omega)).mp c_68))] at k2
        exact k2
      · refine pm_iload dX3_findFewestLies_71 rfl ?_
        refine pm_aload_n dX3_findFewestLies_73 rfl rfl ?_
        refine pm_get fl_RX3_62_3 dX3_findFewestLies_74 rfl rfl ?_
        refine pm_icmp_ne (tgt := 96) dX3_findFewestLies_77 (by decide) (fun c_77 => ?_) (fun c_77 => ?_)
        · refine pm_iinc (lv2 := [(3, _), (5, _), (4, _), (0, _), (1, _), (2, _)]) dX3_findFewestLies_96 rfl (nI_1 n) (Nat.le_of_ble_eq_true rfl) rfl ?_
          refine pm_goto (tgt := 13) dX3_findFewestLies_99 (by decide) ?_
          refine pm_pick [0, 3, 4, 5] rfl ?_
          have k2 := k t
          rw [th_fwk hk hp (fun z => z.elim (fun z => c_68 ((nI_ltI (by omega) (by omega)).mpr z)) (fun z => c_77 (by rw [z.1])))] at k2
          exact k2
        · refine pm_iload dX3_findFewestLies_80 rfl ?_
          refine pm_if_eq (tgt := 96) dX3_findFewestLies_82 (by decide) (fun c_82 => absurd c_82 (by decide)) (fun c_82 => ?_)
          refine pm_aload_n dX3_findFewestLies_85 rfl rfl ?_
          refine pm_iload dX3_findFewestLies_86 rfl ?_
          refine pm_put (w2 := (_, _, _, _, [.inr (_, [_, _, _, _, _, _, _, _]), _, _, _, _], _, _, _, _)) fl_RX3_62_3 fp_3_1 dX3_findFewestLies_88 rfl rfl rfl (Nat.le_of_ble_eq_true rfl) rfl ?_
          refine pm_aload_n dX3_findFewestLies_91 rfl rfl ?_
          refine pm_iload_n dX3_findFewestLies_92 rfl rfl ?_
          refine pm_put (w2 := (_, _, _, _, [.inr (_, [_, _, _, _, _, _, _, _]), _, _, _, _], _, _, _, _)) fl_RX3_65_3 fp_3_2 dX3_findFewestLies_93 rfl rfl rfl (Nat.le_of_ble_eq_true rfl) rfl ?_
          refine pm_iinc (lv2 := [(3, _), (5, _), (4, _), (0, _), (1, _), (2, _)]) dX3_findFewestLies_96 rfl (nI_1 n) (Nat.le_of_ble_eq_true rfl) rfl ?_
          refine pm_goto (tgt := 13) dX3_findFewestLies_99 (by decide) ?_
          refine pm_pick [0, 3, 4, 5] rfl ?_
          have k2 := k t
          rw [th_fwb hk hp (Or.inr ⟨(nI_eq (by omega) (by omega)).mp c_77, Nat.lt_of_not_le (fun z => c_52 ((nI_leI (by omega) (by omega)).mpr z))⟩)] at k2
          exact k2
  · refine pm_if_eq (tgt := 96) dX3_findFewestLies_30 (by decide) (fun c_30 => ?_) (fun c_30 => absurd (rfl) c_30)
    refine pm_iinc (lv2 := [(3, _), (0, _), (1, _), (2, _)]) dX3_findFewestLies_96 rfl (nI_1 n) (Nat.le_of_ble_eq_true rfl) rfl ?_
    refine pm_goto (tgt := 13) dX3_findFewestLies_99 (by decide) ?_
    refine pm_pick [0, 1, 2, 3] rfl ?_
    have k2 := k t
    rw [th_fw0 hk, hp] at k2
    exact k2

set_option maxHeartbeats 600000 in
set_option maxRecDepth 100000 in
theorem c_X3_findFewestLies {l : Launch} {G : pm_G} {ad : Nat → Nat → Nat} {S : Nat → Nat} {A : Nat → Nat → Int32} {X : Nat → Int32} {Y : Nat → Nat → Int32} {F : Nat → Int64} {Hd Cs : Nat → Option Nat} {m : List pm_A} {Q : pm_T} (hI : th_I S A) (hT : th_T S A Y) (hQ : ∀ t p, th_fw S A (2 ^ S 26) = some p → Q ad none (th_cx ad S A X (va_up Y 4 t) F Hd Cs m (nI p.1) (nI p.2))) : pm_C l G m_X3_findFewestLies [.ref (ad 4 0), .ref (ad 0 2), .int (nI (S 6))] ad (th_cw ad S A X Y F Hd Cs m) Q := by
  have h8 := hI.2.2.2.2.1.1
  have h10 := hI.2.2.2.2.2.1.1
  have hp2 := th_isp (n := 0) h10
  refine pm_met (by decide) (Nat.le_of_ble_eq_true rfl) ?_
  refine pm_aload_n dX3_findFewestLies_0 rfl rfl ?_
  refine pm_bipush (v := 19) dX3_findFewestLies_1 (by decide) ?_
  refine pm_put (w2 := (_, _, _, _, [.inr (_, [_, _, _, _, _, _, _, _]), _, _, _, _], _, _, _, _)) fl_RX3_62_3 fp_3_1 dX3_findFewestLies_3 rfl rfl rfl (Nat.le_of_ble_eq_true rfl) rfl ?_
  refine pm_aload_n dX3_findFewestLies_6 rfl rfl ?_
  refine pm_iconst (v := 0) dX3_findFewestLies_7 (by decide) ?_
  refine pm_put (w2 := (_, _, _, _, [.inr (_, [_, _, _, _, _, _, _, _]), _, _, _, _], _, _, _, _)) fl_RX3_65_3 fp_3_2 dX3_findFewestLies_8 rfl rfl rfl (Nat.le_of_ble_eq_true rfl) rfl ?_
  refine pm_iconst (v := 0) dX3_findFewestLies_11 (by decide) ?_
  refine pm_istore_n (lv2 := [(3, _), (0, _), (1, _), (2, _)]) dX3_findFewestLies_12 rfl (Nat.le_of_ble_eq_true rfl) rfl ?_
  suffices H : ∀ n, n ≤ 2 ^ S 26 → ∀ t, pm_W l G m_X3_findFewestLies ad 13 [(3, .int (nI n)), (0, .ref (ad 4 0)), (1, .ref (ad 0 2)), (2, .int (nI (S 6)))] [] (th_cx ad S A X (va_up Y 4 t) F Hd Cs m (th_e1 19 (th_fw S A n)) (th_e2 (nI 0) (th_fw S A n))) 0 0 Q from H 0 (Nat.zero_le _) (Y 4)
  refine th_loop _ ?_
  intro n hn k t
  by_cases hlt : n < 2 ^ S 26
  · cases hp : th_fw S A n with
    | none => exact b_X3_ffl_none hI hT hlt hp (k hlt)
    | some p => exact b_X3_ffl_some hI hT hlt hp (k hlt)
  have he : n = 2 ^ S 26 := by omega
  obtain ⟨p, hp⟩ := th_fws S A (2 ^ S 26 - 1)
  rw [show 2 ^ S 26 - 1 + 1 = 2 ^ S 26 by have := Nat.pow_pos (n := S 26) (show 0 < 2 by decide); omega] at hp
  rw [he, hp]
  refine pm_iload_n dX3_findFewestLies_13 rfl rfl ?_
  refine pm_iconst (v := 1) dX3_findFewestLies_14 (by decide) ?_
  refine pm_aload_n dX3_findFewestLies_15 rfl rfl ?_
  refine pm_get fl_RX3_24_3 dX3_findFewestLies_16 rfl rfl ?_
  refine pm_ishl dX3_findFewestLies_19 ?_
  rw [th_sh1 (S 26) (by omega)]
  refine pm_icmp_ge (tgt := 102) dX3_findFewestLies_20 (by decide) (fun c_20 => ?_) (fun c_20 => absurd (Int32.le_refl _) c_20)
  refine pm_vret dX3_findFewestLies_102 rfl rfl rfl ?_
  exact hQ t p hp

def th_liesA (S : Nat → Nat) (A : Nat → Nat → Int32) (z : Int32) : Int32 := if 0 ≤ z ∧ z ≤ 1 then (if z = 0 then th_e1 (-1) (th_fw S A (2 ^ S 26)) else th_e2 (-1) (th_fw S A (2 ^ S 26))) else -102
set_option maxHeartbeats 600000 in
set_option maxRecDepth 100000 in
theorem c_X12_lies {l : Launch} {G : pm_G} {ad : Nat → Nat → Nat} {a0 a3 a4 a5 a6 a7 : List pm_A} {a1 a2 : Nat → Option pm_A} {S : Nat → Nat} {A : Nat → Nat → Int32} {s : Nat → Int32} {B : Nat → Nat → Int32} {hs : Int64} {Q : pm_T} {z : Int32} (hI : th_I S A) (hQ : ∀ s2 B2, Q ad (some (.int (th_liesA S A z))) (a0, a1, a2, a3, a4, a5, a6, a7, th_mp ad S A s2 B2 hs)) : pm_C l G m_X12_lies [.ref (ad 8 0), .int z] ad (a0, a1, a2, a3, a4, a5, a6, a7, th_mp ad S A s B hs) Q := by
  refine pm_met (by decide) (Nat.le_of_ble_eq_true rfl) ?_
  refine pm_iload_n dX12_lies_0 rfl rfl ?_
  refine pm_i2l dX12_lies_1 ?_
  refine pm_lconst (v := 0) dX12_lies_2 (by decide) ?_
  refine pm_lconst (v := 1) dX12_lies_3 (by decide) ?_
  refine pm_callS (M2 := m_X12_in) (As := [_, _, _]) ok_X12_in kw_1115 kw_1116 dX12_lies_4 rfl rfl (Nat.le_of_ble_eq_true rfl) ⟨⟨Nat.le_of_ble_eq_true rfl, Nat.le_of_ble_eq_true rfl⟩, Nat.le_of_ble_eq_true rfl, Nat.le_of_ble_eq_true rfl⟩ ?_
  refine c_X12_in32 (lo := 0) (hi := 1) rfl rfl (fun u v => ?_) (fun u => ?_)
  · refine pm_if_ne (tgt := 13) dX12_lies_7 (by decide) (fun c_7 => ?_) (fun c_7 => absurd c_7 (by decide))
    refine pm_aload_n dX12_lies_13 rfl rfl ?_
    refine pm_callV (M2 := m_X12_layFewest) (As := []) ok_X12_layFewest (ci := 12) rfl kw_1232 kw_1234 kw_33 dX12_lies_14 rfl rfl rfl (Nat.le_of_ble_eq_true rfl) ⟨⟨Nat.le_of_ble_eq_true rfl, Nat.le_of_ble_eq_true rfl⟩, Nat.le_of_ble_eq_true rfl, Nat.le_of_ble_eq_true rfl⟩ ?_
    refine c_X12_layFewest hI (fun t p hp => ?_)
    refine pm_iload_n dX12_lies_17 rfl rfl ?_
    refine pm_if_ne (tgt := 28) dX12_lies_18 (by decide) (fun c_18 => ?_) (fun c_18 => ?_)
    · refine pm_aload_n dX12_lies_28 rfl rfl ?_
      refine pm_get fl_RX12_207_12 dX12_lies_29 rfl rfl ?_
      refine pm_iret dX12_lies_32 rfl rfl rfl ?_
      refine th_r ?_ (hQ (upd (upd s 30 (nI p.1)) 31 (nI p.2)) (va_up B 17 t))
      rw [th_liesA, if_pos ⟨u, v⟩, if_neg c_18, hp]
      rfl
    · refine pm_aload_n dX12_lies_21 rfl rfl ?_
      refine pm_get fl_RX12_204_12 dX12_lies_22 rfl rfl ?_
      refine pm_goto (tgt := 32) dX12_lies_25 (by decide) ?_
      refine pm_iret dX12_lies_32 rfl rfl rfl ?_
      refine th_r ?_ (hQ (upd (upd s 30 (nI p.1)) 31 (nI p.2)) (va_up B 17 t))
      rw [th_liesA, if_pos ⟨u, v⟩, if_pos c_18, hp]
      rfl
  · refine pm_if_ne (tgt := 13) dX12_lies_7 (by decide) (fun c_7 => absurd (rfl) c_7) (fun c_7 => ?_)
    refine pm_bipush (v := (-102)) dX12_lies_10 (by decide) ?_
    refine pm_iret dX12_lies_12 rfl rfl rfl ?_
    refine th_r ?_ (hQ s B)
    rw [th_liesA, if_neg u]

set_option maxHeartbeats 600000 in
set_option maxRecDepth 100000 in
theorem c_X11_lies {l : Launch} {G : pm_G} {ad : Nat → Nat → Nat} {S : Nat → Nat} {A : Nat → Nat → Int32} {X : Nat → Int32} {Y : Nat → Nat → Int32} {F : Nat → Int64} {Hd Cs : Nat → Option Nat} {m : List pm_A} {Q : pm_T} {z : Int32} (hI : th_I S A) (hT : th_T S A Y) (hQ : ∀ X2 t, Q ad (some (.int (th_liesA S A z))) (th_cw ad S A X2 (va_up Y 4 t) F Hd Cs m)) : pm_C l G m_X11_lies [.ref (ad 0 0), .int z] ad (th_cw ad S A X Y F Hd Cs m) Q := by
  refine pm_met (by decide) (Nat.le_of_ble_eq_true rfl) ?_
  refine pm_iload_n dX11_lies_0 rfl rfl ?_
  refine pm_iconst (v := 0) dX11_lies_1 (by decide) ?_
  refine pm_iconst (v := 1) dX11_lies_2 (by decide) ?_
  refine pm_callS (M2 := m_X11_isOutside) (As := [_, _, _]) ok_X11_isOutside kw_361 kw_362 dX11_lies_3 rfl rfl (Nat.le_of_ble_eq_true rfl) ⟨⟨Nat.le_of_ble_eq_true rfl, Nat.le_of_ble_eq_true rfl⟩, Nat.le_of_ble_eq_true rfl, Nat.le_of_ble_eq_true rfl⟩ ?_
  refine c_X11_isOutside (fun u => ?_) (fun u v => ?_)
  · refine pm_if_eq (tgt := 12) dX11_lies_6 (by decide) (fun c_6 => absurd c_6 (by decide)) (fun c_6 => ?_)
    refine pm_bipush (v := (-102)) dX11_lies_9 (by decide) ?_
    refine pm_iret dX11_lies_11 rfl rfl rfl ?_
    refine th_r ?_ (hQ X (Y 4))
    rw [th_liesA, if_neg u]
  · refine pm_if_eq (tgt := 12) dX11_lies_6 (by decide) (fun c_6 => ?_) (fun c_6 => absurd (rfl) c_6)
    refine pm_aload_n dX11_lies_12 rfl rfl ?_
    refine pm_get fl_RX11_38_11 dX11_lies_13 rfl rfl ?_
    refine pm_aload_n dX11_lies_16 rfl rfl ?_
    refine pm_get fl_RX11_24_11 dX11_lies_17 rfl rfl ?_
    refine pm_aload_n dX11_lies_20 rfl rfl ?_
    refine pm_get fl_RX11_60_11 dX11_lies_21 rfl rfl ?_
    refine pm_callV (M2 := m_X3_findFewestLies) (As := [_, _]) ok_X3_findFewestLies (ci := 3) rfl kw_691 kw_692 kw_693 dX11_lies_24 rfl rfl rfl (Nat.le_of_ble_eq_true rfl) ⟨⟨Nat.le_of_ble_eq_true rfl, Nat.le_of_ble_eq_true rfl⟩, Nat.le_of_ble_eq_true rfl, Nat.le_of_ble_eq_true rfl⟩ ?_
    refine c_X3_findFewestLies hI hT (fun t p hp => ?_)
    refine pm_iload_n dX11_lies_27 rfl rfl ?_
    refine pm_if_ne (tgt := 41) dX11_lies_28 (by decide) (fun c_28 => ?_) (fun c_28 => ?_)
    · refine pm_aload_n dX11_lies_41 rfl rfl ?_
      refine pm_get fl_RX11_38_11 dX11_lies_42 rfl rfl ?_
      refine pm_get fl_RX11_181_3 dX11_lies_45 rfl rfl ?_
      refine pm_iret dX11_lies_48 rfl rfl rfl ?_
      refine th_r ?_ (hQ (upd (upd X 3 (nI p.1)) 4 (nI p.2)) t)
      rw [th_liesA, if_pos ⟨u, v⟩, if_neg c_28, hp]
      rfl
    · refine pm_aload_n dX11_lies_31 rfl rfl ?_
      refine pm_get fl_RX11_38_11 dX11_lies_32 rfl rfl ?_
      refine pm_get fl_RX11_178_3 dX11_lies_35 rfl rfl ?_
      refine pm_goto (tgt := 48) dX11_lies_38 (by decide) ?_
      refine pm_iret dX11_lies_48 rfl rfl rfl ?_
      refine th_r ?_ (hQ (upd (upd X 3 (nI p.1)) 4 (nI p.2)) t)
      rw [th_liesA, if_pos ⟨u, v⟩, if_pos c_28, hp]
      rfl

