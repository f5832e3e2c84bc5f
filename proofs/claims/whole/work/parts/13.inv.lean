def th_cw (ad : Nat → Nat → Nat) (S : Nat → Nat) (A : Nat → Nat → Int32) (X : Nat → Int32) (Y : Nat → Nat → Int32) (F : Nat → Int64) (Hd Cs : Nat → Option Nat) (m : List pm_A) : pm_V := (th_g0 ad S Y, th_g1 S A, th_g2 ad S A Y, th_g3 ad S A X Y, th_g4 ad S A X Y, th_g5 ad X F Hd, th_g6 ad S A Cs, th_g7 X, m)
def th_I1 (S : Nat → Nat) (A : Nat → Nat → Int32) : Prop := S 1 ≤ 20 ∧ ∀ k, k < S 1 → ∃ v : Nat, 1 ≤ v ∧ v ≤ 126 ∧ A 1 k = nI v
def th_I4 (S : Nat → Nat) (A : Nat → Nat → Int32) : Prop := ∀ j, j < S 2 → A 4 j = 116 ∨ A 4 j = 111 ∨ A 4 j = 110
def th_N (S : Nat → Nat) (A : Nat → Nat → Int32) (i : Nat) : Prop := (∃ kd : Nat, kd ≤ 4 ∧ A 6 i = nI kd) ∧ (∃ sc : Nat, sc < S 2 ∧ A 7 i = nI sc) ∧ (∃ h : Nat, 1 ≤ h ∧ h ≤ 9 ∧ A 8 i = nI h) ∧ (∃ c : Nat, c ≤ 99 ∧ A 9 i = nI c) ∧ (∃ c : Nat, 1 ≤ c ∧ c ≤ 99 ∧ A 10 i = nI c) ∧ (∃ c : Nat, c ≤ 999 ∧ A 11 i = nI c) ∧ (A 13 i = 0 ∨ A 13 i = 1)
def th_I11 (S : Nat → Nat) (A : Nat → Nat → Int32) : Prop := S 11 ≤ 8 ∧ (∀ i, i < S 11 → th_N S A i) ∧ ∀ i, S 11 ≤ i → i < 8 → A 12 i = 0 ∧ A 13 i = 0 ∧ A 14 i = -1
def th_I26 (S : Nat → Nat) (A : Nat → Nat → Int32) : Prop := S 26 ≤ 10 ∧ ∀ f, f < S 26 → ∃ a b : Nat, a < S 11 ∧ b < S 11 ∧ a ≠ b ∧ A 15 f = nI a ∧ A 16 f = nI b
def th_I34 (S : Nat → Nat) (A : Nat → Nat → Int32) : Prop := S 34 ≤ 8 ∧ ∀ k, k < S 34 → ∃ sc c t : Nat, sc < S 2 ∧ c ≤ 99 ∧ t ≤ 10 ∧ A 19 k = nI sc ∧ A 20 k = nI c ∧ A 21 k = nI t
def th_I42 (S : Nat → Nat) (A : Nat → Nat → Int32) : Prop := S 42 ≤ 1 ∧ S 40 ≤ S 11 ∧ S 41 ≤ 10 ∧ (∀ i, i < S 40 → (∃ c : Nat, c ≤ 999 ∧ A 22 (4 * i) = nI c) ∧ (A 22 (4 * i + 2) = 0 ∨ A 22 (4 * i + 2) = 1)) ∧ ∀ f, f < S 41 → ∃ a b : Nat, a < S 11 ∧ b < S 11 ∧ a ≠ b ∧ A 23 (2 * f) = nI a ∧ A 23 (2 * f + 1) = nI b
/-- what holds of the state between calls -/
def th_I (S : Nat → Nat) (A : Nat → Nat → Int32) : Prop := th_I1 S A ∧ th_I2 S A ∧ th_I4 S A ∧ S 6 ≤ 3 ∧ th_I11 S A ∧ th_I26 S A ∧ th_I34 S A ∧ th_I42 S A
/-- the told fights as the class has them: as far as there are any -/
def th_T (S : Nat → Nat) (A Y : Nat → Nat → Int32) : Prop := ∀ f, f < S 26 → Y 2 f = A 15 f ∧ Y 3 f = A 16 f
/-- those of the image are the first ones -/
def th_K (S : Nat → Nat) (A Y : Nat → Nat → Int32) : Prop := th_T S A Y ∧ S 41 ≤ S 26 ∧ ∀ f, f < S 41 → Y 2 f = A 23 (2 * f) ∧ Y 3 f = A 23 (2 * f + 1)
/-- and of what the class holds beside it -/
def th_J (ad : Nat → Nat → Nat) (S : Nat → Nat) (A : Nat → Nat → Int32) (Y : Nat → Nat → Int32) (Cs : Nat → Option Nat) : Prop := th_K S A Y ∧ (∀ i, i < S 40 → Y 20 i = A 22 (4 * i) ∧ Y 21 i = A 22 (4 * i + 1) ∧ Y 22 i = A 22 (4 * i + 2) ∧ Y 23 i = A 22 (4 * i + 3)) ∧ ∀ k, k < S 34 → ∃ sc : Nat, sc < S 2 ∧ A 19 k = nI sc ∧ Cs k = some (ad 1 sc)
abbrev th_ok (x : Int32) (n : Nat) : Prop := 0 ≤ x ∧ x ≤ nI n - 1
theorem th_okt {j n : Nat} (h : j < n) (hn : n < 2 ^ 30) : th_ok (nI j) n := (th_is_iff hn).mpr ⟨j, h, rfl⟩
theorem th_okf {x : Int32} {n : Nat} (h : ¬ th_is x n) (hn : n < 2 ^ 30) : ¬ th_ok x n := fun z => h ((th_is_iff hn).mp z)
theorem th_sc_get {S : Nat → Nat} {A : Nat → Nat → Int32} {j : Nat} (h : j < S 2) : th_g1 S A j = some (.inr (10, th_sf A j)) := if_pos h
theorem th_nt_get {ad : Nat → Nat → Nat} {S : Nat → Nat} {A : Nat → Nat → Int32} {Y : Nat → Nat → Int32} {i : Nat} (h : i < S 11) : th_g2 ad S A Y i = some (.inr (pm_kc (th_n (A 6 i)), th_nf ad A Y i)) := if_pos h
def th_counts (S : Nat → Nat) (A : Nat → Nat → Int32) (z x y : Int32) : Int32 := if th_ok z (S 2) then (if (0 ≤ x ∧ x ≤ 999) ∧ (0 ≤ y ∧ y ≤ 999) then th_ca A (th_n z) x y else -102) else -101
set_option maxHeartbeats 600000 in
set_option maxRecDepth 100000 in
theorem c_X12_counts {l : Launch} {G : pm_G} {ad : Nat → Nat → Nat} {a0 a3 a4 a5 a6 a7 : List pm_A} {a1 a2 : Nat → Option pm_A} {S : Nat → Nat} {A : Nat → Nat → Int32} {s : Nat → Int32} {B : Nat → Nat → Int32} {hs : Int64} {Q : pm_T} {z x y : Int32} (hI : th_I S A) (hQ : Q ad (some (.int (th_counts S A z x y))) (a0, a1, a2, a3, a4, a5, a6, a7, th_mp ad S A s B hs)) : pm_C l G m_X12_counts [.ref (ad 8 0), .int z, .int x, .int y] ad (a0, a1, a2, a3, a4, a5, a6, a7, th_mp ad S A s B hs) Q := by
  have h2 : S 2 ≤ 3 := hI.2.1.1
  refine pm_met (by decide) (Nat.le_of_ble_eq_true rfl) ?_
  refine pm_aload_n dX12_counts_0 rfl rfl ?_
  refine pm_iload_n dX12_counts_1 rfl rfl ?_
  refine pm_callV (M2 := m_X12_isSchool) (As := [_]) ok_X12_isSchool (ci := 12) rfl kw_1126 kw_1128 kw_22 dX12_counts_2 rfl rfl rfl (Nat.le_of_ble_eq_true rfl) ⟨⟨Nat.le_of_ble_eq_true rfl, Nat.le_of_ble_eq_true rfl⟩, Nat.le_of_ble_eq_true rfl, Nat.le_of_ble_eq_true rfl⟩ ?_
  refine c_X12_isSchool h2 (fun j hj e => ?_) (fun hn => ?_)
  · subst e
    refine pm_if_ne (tgt := 11) dX12_counts_5 (by decide) (fun c_5 => ?_) (fun c_5 => absurd c_5 (by decide))
    refine pm_iload_n dX12_counts_11 rfl rfl ?_
    refine pm_i2l dX12_counts_12 ?_
    refine pm_lconst (v := 0) dX12_counts_13 (by decide) ?_
    refine pm_ldc2 kw_1130 dX12_counts_14 ?_
    refine pm_callS (M2 := m_X12_in) (As := [_, _, _]) ok_X12_in kw_1115 kw_1116 dX12_counts_17 rfl rfl (Nat.le_of_ble_eq_true rfl) ⟨⟨Nat.le_of_ble_eq_true rfl, Nat.le_of_ble_eq_true rfl⟩, Nat.le_of_ble_eq_true rfl, Nat.le_of_ble_eq_true rfl⟩ ?_
    refine c_X12_in32 (lo := 0) (hi := 999) rfl rfl (fun u v => ?_) (fun u => ?_)
    · refine pm_if_eq (tgt := 45) dX12_counts_20 (by decide) (fun c_20 => absurd c_20 (by decide)) (fun c_20 => ?_)
      refine pm_iload_n dX12_counts_23 rfl rfl ?_
      refine pm_i2l dX12_counts_24 ?_
      refine pm_lconst (v := 0) dX12_counts_25 (by decide) ?_
      refine pm_ldc2 kw_1130 dX12_counts_26 ?_
      refine pm_callS (M2 := m_X12_in) (As := [_, _, _]) ok_X12_in kw_1115 kw_1116 dX12_counts_29 rfl rfl (Nat.le_of_ble_eq_true rfl) ⟨⟨Nat.le_of_ble_eq_true rfl, Nat.le_of_ble_eq_true rfl⟩, Nat.le_of_ble_eq_true rfl, Nat.le_of_ble_eq_true rfl⟩ ?_
      refine c_X12_in32 (lo := 0) (hi := 999) rfl rfl (fun u2 v2 => ?_) (fun u2 => ?_)
      · refine pm_if_eq (tgt := 45) dX12_counts_32 (by decide) (fun c_32 => absurd c_32 (by decide)) (fun c_32 => ?_)
        refine pm_aload_n dX12_counts_35 rfl rfl ?_
        refine pm_iload_n dX12_counts_36 rfl rfl ?_
        refine pm_iload_n dX12_counts_37 rfl rfl ?_
        refine pm_iload_n dX12_counts_38 rfl rfl ?_
        refine pm_callV (M2 := m_X12_countsOf) (As := [_, _, _]) ok_X12_countsOf (ci := 12) rfl kw_1131 kw_1133 kw_23 dX12_counts_39 rfl rfl rfl (Nat.le_of_ble_eq_true rfl) ⟨⟨Nat.le_of_ble_eq_true rfl, Nat.le_of_ble_eq_true rfl⟩, Nat.le_of_ble_eq_true rfl, Nat.le_of_ble_eq_true rfl⟩ ?_
        refine c_X12_countsOf hI.2.1 hj ?_
        refine pm_goto (tgt := 47) dX12_counts_42 (by decide) ?_
        refine pm_iret dX12_counts_47 rfl rfl rfl ?_
        refine th_r ?_ hQ
        rw [th_counts, if_pos (th_okt hj (by omega)), if_pos ⟨⟨u, v⟩, u2, v2⟩, th_n_nI (by omega)]
      · refine pm_if_eq (tgt := 45) dX12_counts_32 (by decide) (fun c_32 => ?_) (fun c_32 => absurd (rfl) c_32)
        refine pm_bipush (v := (-102)) dX12_counts_45 (by decide) ?_
        refine pm_iret dX12_counts_47 rfl rfl rfl ?_
        refine th_r ?_ hQ
        rw [th_counts, if_pos (th_okt hj (by omega)), if_neg (fun z => u2 z.2)]
    · refine pm_if_eq (tgt := 45) dX12_counts_20 (by decide) (fun c_20 => ?_) (fun c_20 => absurd (rfl) c_20)
      refine pm_bipush (v := (-102)) dX12_counts_45 (by decide) ?_
      refine pm_iret dX12_counts_47 rfl rfl rfl ?_
      refine th_r ?_ hQ
      rw [th_counts, if_pos (th_okt hj (by omega)), if_neg (fun z => u z.1)]
  · refine pm_if_ne (tgt := 11) dX12_counts_5 (by decide) (fun c_5 => absurd (rfl) c_5) (fun c_5 => ?_)
    refine pm_bipush (v := (-101)) dX12_counts_8 (by decide) ?_
    refine pm_iret dX12_counts_10 rfl rfl rfl ?_
    refine th_r ?_ hQ
    rw [th_counts, if_neg (th_okf hn (by omega))]

set_option maxHeartbeats 600000 in
set_option maxRecDepth 100000 in
theorem c_X11_counts {l : Launch} {G : pm_G} {ad : Nat → Nat → Nat} {S : Nat → Nat} {A : Nat → Nat → Int32} {X : Nat → Int32} {Y : Nat → Nat → Int32} {F : Nat → Int64} {Hd Cs : Nat → Option Nat} {m : List pm_A} {Q : pm_T} {z x y : Int32} (hI : th_I S A) (hQ : Q ad (some (.int (th_counts S A z x y))) (th_cw ad S A X Y F Hd Cs m)) : pm_C l G m_X11_counts [.ref (ad 0 0), .int z, .int x, .int y] ad (th_cw ad S A X Y F Hd Cs m) Q := by
  have h2 : S 2 ≤ 3 := hI.2.1.1
  refine pm_met (by decide) (Nat.le_of_ble_eq_true rfl) ?_
  refine pm_aload_n dX11_counts_0 rfl rfl ?_
  refine pm_iload_n dX11_counts_1 rfl rfl ?_
  refine pm_callV (M2 := m_X11_schoolOf) (As := [_]) ok_X11_schoolOf (ci := 11) rfl kw_357 kw_359 kw_4 dX11_counts_2 rfl rfl rfl (Nat.le_of_ble_eq_true rfl) ⟨⟨Nat.le_of_ble_eq_true rfl, Nat.le_of_ble_eq_true rfl⟩, Nat.le_of_ble_eq_true rfl, Nat.le_of_ble_eq_true rfl⟩ ?_
  refine c_X11_schoolOf h2 (fun j hj e => ?_) (fun hn => ?_)
  · subst e
    refine pm_astore (lv2 := [(4, _), (0, _), (1, _), (2, _), (3, _)]) dX11_counts_5 (Nat.le_of_ble_eq_true rfl) rfl ?_
    refine pm_aload dX11_counts_7 rfl ?_
    refine pm_ifnonnull (tgt := 15) dX11_counts_9 (by decide) ?_
    refine pm_iload_n dX11_counts_15 rfl rfl ?_
    refine pm_iconst (v := 0) dX11_counts_16 (by decide) ?_
    refine pm_sipush (v := 999) dX11_counts_17 (by decide) ?_
    refine pm_callS (M2 := m_X11_isOutside) (As := [_, _, _]) ok_X11_isOutside kw_361 kw_362 dX11_counts_20 rfl rfl (Nat.le_of_ble_eq_true rfl) ⟨⟨Nat.le_of_ble_eq_true rfl, Nat.le_of_ble_eq_true rfl⟩, Nat.le_of_ble_eq_true rfl, Nat.le_of_ble_eq_true rfl⟩ ?_
    refine c_X11_isOutside (fun u => ?_) (fun u v => ?_)
    · refine pm_if_ne (tgt := 37) dX11_counts_23 (by decide) (fun c_23 => ?_) (fun c_23 => absurd c_23 (by decide))
      refine pm_bipush (v := (-102)) dX11_counts_37 (by decide) ?_
      refine pm_iret dX11_counts_39 rfl rfl rfl ?_
      refine th_r ?_ hQ
      rw [th_counts, if_pos (th_okt hj (by omega)), if_neg (fun z => u z.1)]
    · refine pm_if_ne (tgt := 37) dX11_counts_23 (by decide) (fun c_23 => absurd (rfl) c_23) (fun c_23 => ?_)
      refine pm_iload_n dX11_counts_26 rfl rfl ?_
      refine pm_iconst (v := 0) dX11_counts_27 (by decide) ?_
      refine pm_sipush (v := 999) dX11_counts_28 (by decide) ?_
      refine pm_callS (M2 := m_X11_isOutside) (As := [_, _, _]) ok_X11_isOutside kw_361 kw_362 dX11_counts_31 rfl rfl (Nat.le_of_ble_eq_true rfl) ⟨⟨Nat.le_of_ble_eq_true rfl, Nat.le_of_ble_eq_true rfl⟩, Nat.le_of_ble_eq_true rfl, Nat.le_of_ble_eq_true rfl⟩ ?_
      refine c_X11_isOutside (fun u2 => ?_) (fun u2 v2 => ?_)
      · refine pm_if_eq (tgt := 40) dX11_counts_34 (by decide) (fun c_34 => absurd c_34 (by decide)) (fun c_34 => ?_)
        refine pm_bipush (v := (-102)) dX11_counts_37 (by decide) ?_
        refine pm_iret dX11_counts_39 rfl rfl rfl ?_
        refine th_r ?_ hQ
        rw [th_counts, if_pos (th_okt hj (by omega)), if_neg (fun z => u2 z.2)]
      · refine pm_if_eq (tgt := 40) dX11_counts_34 (by decide) (fun c_34 => ?_) (fun c_34 => absurd (rfl) c_34)
        refine pm_aload dX11_counts_40 rfl ?_
        refine pm_iload_n dX11_counts_42 rfl rfl ?_
        refine pm_iload_n dX11_counts_43 rfl rfl ?_
        refine pm_callV (M2 := m_X10_countAfter) (As := [_, _]) ok_X10_countAfter (ci := 10) rfl kw_364 kw_365 kw_366 dX11_counts_44 (show pm_get? _ 1 j = some (.inr (10, th_sf A j)) from th_sc_get hj) rfl rfl (Nat.le_of_ble_eq_true rfl) ⟨⟨Nat.le_of_ble_eq_true rfl, Nat.le_of_ble_eq_true rfl⟩, Nat.le_of_ble_eq_true rfl, Nat.le_of_ble_eq_true rfl⟩ ?_
        refine c_X10_ca hI.2.1 hj (th_sc_get hj) ?_
        refine pm_iret dX11_counts_47 rfl rfl rfl ?_
        refine th_r ?_ hQ
        rw [th_counts, if_pos (th_okt hj (by omega)), if_pos ⟨⟨u, v⟩, u2, v2⟩, th_n_nI (by omega)]
  · refine pm_nstore (lv2 := [(4, _), (0, _), (1, _), (2, _), (3, _)]) dX11_counts_5 (Nat.le_of_ble_eq_true rfl) rfl ?_
    refine pm_nload dX11_counts_7 rfl ?_
    refine pm_ifnonnullN dX11_counts_9 ?_
    refine pm_bipush (v := (-101)) dX11_counts_12 (by decide) ?_
    refine pm_iret dX11_counts_14 rfl rfl rfl ?_
    refine th_r ?_ hQ
    rw [th_counts, if_neg (th_okf hn (by omega))]

theorem th_03 {x : Int32} (h0 : 0 ≤ x) {M : Int32} {n : Nat} (hM : M.toInt = n) (h3 : x ≤ M) : ∃ j : Nat, j ≤ n ∧ x = nI j := nI_of2 hM (Int32.not_lt.mpr h0) h3
def th_meetA (S : Nat → Nat) (x : Int32) : Int32 := if 0 ≤ x ∧ x ≤ 3 then nI (S 6) else -102
def th_meetS (S : Nat → Nat) (x : Int32) : Nat → Nat := if 0 ≤ x ∧ x ≤ 3 then va_up S 6 (th_n x) else S
set_option maxHeartbeats 600000 in
set_option maxRecDepth 100000 in
theorem c_X12_meeting {l : Launch} {G : pm_G} {ad : Nat → Nat → Nat} {a0 a3 a4 a5 a6 a7 : List pm_A} {a1 a2 : Nat → Option pm_A} {S : Nat → Nat} {A : Nat → Nat → Int32} {s : Nat → Int32} {B : Nat → Nat → Int32} {hs : Int64} {Q : pm_T} {x : Int32} (hQ : Q ad (some (.int (th_meetA S x))) (a0, a1, a2, a3, a4, a5, a6, a7, th_mp ad (th_meetS S x) A s B hs)) : pm_C l G m_X12_meeting [.ref (ad 8 0), .int x] ad (a0, a1, a2, a3, a4, a5, a6, a7, th_mp ad S A s B hs) Q := by
  refine pm_met (by decide) (Nat.le_of_ble_eq_true rfl) ?_
  refine pm_iload_n dX12_meeting_0 rfl rfl ?_
  refine pm_i2l dX12_meeting_1 ?_
  refine pm_lconst (v := 0) dX12_meeting_2 (by decide) ?_
  refine pm_ldc2 kw_1142 dX12_meeting_3 ?_
  refine pm_callS (M2 := m_X12_in) (As := [_, _, _]) ok_X12_in kw_1115 kw_1116 dX12_meeting_6 rfl rfl (Nat.le_of_ble_eq_true rfl) ⟨⟨Nat.le_of_ble_eq_true rfl, Nat.le_of_ble_eq_true rfl⟩, Nat.le_of_ble_eq_true rfl, Nat.le_of_ble_eq_true rfl⟩ ?_
  refine c_X12_in32 (lo := 0) (hi := 3) rfl rfl (fun u v => ?_) (fun u => ?_)
  · refine pm_if_ne (tgt := 15) dX12_meeting_9 (by decide) (fun c_9 => ?_) (fun c_9 => absurd c_9 (by decide))
    rw [th_meetA, th_meetS, if_pos ⟨u, v⟩, if_pos ⟨u, v⟩] at hQ
    obtain ⟨j, hj, rfl⟩ := th_03 u (n := 3) (by decide) v
    rw [th_n_nI (by omega)] at hQ
    refine pm_aload_n dX12_meeting_15 rfl rfl ?_
    refine pm_get fl_RX12_128_12 dX12_meeting_16 rfl rfl ?_
    refine pm_istore_n (lv2 := [(2, _), (0, _), (1, _)]) dX12_meeting_19 rfl (Nat.le_of_ble_eq_true rfl) rfl ?_
    refine pm_aload_n dX12_meeting_20 rfl rfl ?_
    refine pm_iload_n dX12_meeting_21 rfl rfl ?_
    refine pm_put (w2 := (_, _, _, _, _, _, _, _, [.inr (_, [_, _, _, _, _, _, _, _, _, _, _, _, _, _, _, _, _, _, _, _, _, _, _, _, _, _, _, _, _, _, _, _, _, _, _, _, _, _, _, _, _, _, _, _]), _, _, _, _, _, _, _, _, _, _, _, _, _, _, _, _, _, _, _, _, _, _, _])) fl_RX12_128_12 fp_12_6 dX12_meeting_22 rfl rfl rfl (Nat.le_of_ble_eq_true rfl) rfl ?_
    refine pm_iload_n dX12_meeting_25 rfl rfl ?_
    refine pm_iret dX12_meeting_26 rfl rfl rfl ?_
    exact hQ
  · refine pm_if_ne (tgt := 15) dX12_meeting_9 (by decide) (fun c_9 => absurd (rfl) c_9) (fun c_9 => ?_)
    refine pm_bipush (v := (-102)) dX12_meeting_12 (by decide) ?_
    refine pm_iret dX12_meeting_14 rfl rfl rfl ?_
    rw [th_meetA, th_meetS, if_neg u, if_neg u] at hQ
    exact hQ

set_option maxHeartbeats 600000 in
set_option maxRecDepth 100000 in
theorem c_X11_meeting {l : Launch} {G : pm_G} {ad : Nat → Nat → Nat} {S : Nat → Nat} {A : Nat → Nat → Int32} {X : Nat → Int32} {Y : Nat → Nat → Int32} {F : Nat → Int64} {Hd Cs : Nat → Option Nat} {m : List pm_A} {Q : pm_T} {x : Int32} (hQ : Q ad (some (.int (th_meetA S x))) (th_cw ad (th_meetS S x) A X Y F Hd Cs m)) : pm_C l G m_X11_meeting [.ref (ad 0 0), .int x] ad (th_cw ad S A X Y F Hd Cs m) Q := by
  refine pm_met (by decide) (Nat.le_of_ble_eq_true rfl) ?_
  refine pm_iload_n dX11_meeting_0 rfl rfl ?_
  refine pm_iconst (v := 0) dX11_meeting_1 (by decide) ?_
  refine pm_iconst (v := 3) dX11_meeting_2 (by decide) ?_
  refine pm_callS (M2 := m_X11_isOutside) (As := [_, _, _]) ok_X11_isOutside kw_361 kw_362 dX11_meeting_3 rfl rfl (Nat.le_of_ble_eq_true rfl) ⟨⟨Nat.le_of_ble_eq_true rfl, Nat.le_of_ble_eq_true rfl⟩, Nat.le_of_ble_eq_true rfl, Nat.le_of_ble_eq_true rfl⟩ ?_
  refine c_X11_isOutside (fun u => ?_) (fun u v => ?_)
  · refine pm_if_eq (tgt := 12) dX11_meeting_6 (by decide) (fun c_6 => absurd c_6 (by decide)) (fun c_6 => ?_)
    refine pm_bipush (v := (-102)) dX11_meeting_9 (by decide) ?_
    refine pm_iret dX11_meeting_11 rfl rfl rfl ?_
    rw [th_meetA, th_meetS, if_neg u, if_neg u] at hQ
    exact hQ
  · refine pm_if_eq (tgt := 12) dX11_meeting_6 (by decide) (fun c_6 => ?_) (fun c_6 => absurd (rfl) c_6)
    rw [th_meetA, th_meetS, if_pos ⟨u, v⟩, if_pos ⟨u, v⟩] at hQ
    obtain ⟨j, hj, rfl⟩ := th_03 u (n := 3) (by decide) v
    rw [th_n_nI (by omega)] at hQ
    refine pm_aload_n dX11_meeting_12 rfl rfl ?_
    refine pm_get fl_RX11_60_11 dX11_meeting_13 rfl rfl ?_
    refine pm_istore_n (lv2 := [(2, _), (0, _), (1, _)]) dX11_meeting_16 rfl (Nat.le_of_ble_eq_true rfl) rfl ?_
    refine pm_aload_n dX11_meeting_17 rfl rfl ?_
    refine pm_iload_n dX11_meeting_18 rfl rfl ?_
    refine pm_put (w2 := ([.inr (_, [_, _, _, _, _, _, _, _, _, _, _, _]), _, _, _], _, _, _, _, _, _, _, _)) fl_RX11_60_11 fp_11_10 dX11_meeting_19 rfl rfl rfl (Nat.le_of_ble_eq_true rfl) rfl ?_
    refine pm_iload_n dX11_meeting_22 rfl rfl ?_
    refine pm_iret dX11_meeting_23 rfl rfl rfl ?_
    exact hQ

def th_asA (S : Nat → Nat) (A : Nat → Nat → Int32) (x k : Int32) : Int32 := if th_ok x (S 11) then (if 0 ≤ k ∧ k ≤ 4 then (if k = 0 ∨ k = A 6 (th_n x) ∨ (k = 2 ∧ A 6 (th_n x) = 3) then x else -1) else -102) else -101
set_option maxHeartbeats 600000 in
set_option maxRecDepth 100000 in
theorem c_X12_as {l : Launch} {G : pm_G} {ad : Nat → Nat → Nat} {a0 a3 a4 a5 a6 a7 : List pm_A} {a1 a2 : Nat → Option pm_A} {S : Nat → Nat} {A : Nat → Nat → Int32} {s : Nat → Int32} {B : Nat → Nat → Int32} {hs : Int64} {Q : pm_T} {x k : Int32} (hI : th_I S A) (hQ : Q ad (some (.int (th_asA S A x k))) (a0, a1, a2, a3, a4, a5, a6, a7, th_mp ad S A s B hs)) : pm_C l G m_X12_as [.ref (ad 8 0), .int x, .int k] ad (a0, a1, a2, a3, a4, a5, a6, a7, th_mp ad S A s B hs) Q := by
  have h8 : S 11 ≤ 8 := hI.2.2.2.2.1.1
  refine pm_met (by decide) (Nat.le_of_ble_eq_true rfl) ?_
  refine pm_aload_n dX12_as_0 rfl rfl ?_
  refine pm_iload_n dX12_as_1 rfl rfl ?_
  refine pm_callV (M2 := m_X12_isNut) (As := [_]) ok_X12_isNut (ci := 12) rfl kw_1154 kw_1156 kw_24 dX12_as_2 rfl rfl rfl (Nat.le_of_ble_eq_true rfl) ⟨⟨Nat.le_of_ble_eq_true rfl, Nat.le_of_ble_eq_true rfl⟩, Nat.le_of_ble_eq_true rfl, Nat.le_of_ble_eq_true rfl⟩ ?_
  refine c_X12_isNut h8 (fun i hi e => ?_) (fun hn => ?_)
  · subst e
    refine pm_if_ne (tgt := 11) dX12_as_5 (by decide) (fun c_5 => ?_) (fun c_5 => absurd c_5 (by decide))
    refine pm_iload_n dX12_as_11 rfl rfl ?_
    refine pm_i2l dX12_as_12 ?_
    refine pm_lconst (v := 0) dX12_as_13 (by decide) ?_
    refine pm_ldc2 kw_1147 dX12_as_14 ?_
    refine pm_callS (M2 := m_X12_in) (As := [_, _, _]) ok_X12_in kw_1115 kw_1116 dX12_as_17 rfl rfl (Nat.le_of_ble_eq_true rfl) ⟨⟨Nat.le_of_ble_eq_true rfl, Nat.le_of_ble_eq_true rfl⟩, Nat.le_of_ble_eq_true rfl, Nat.le_of_ble_eq_true rfl⟩ ?_
    refine c_X12_in32 (lo := 0) (hi := 4) rfl rfl (fun u v => ?_) (fun u => ?_)
    · refine pm_if_ne (tgt := 26) dX12_as_20 (by decide) (fun c_20 => ?_) (fun c_20 => absurd c_20 (by decide))
      refine pm_iload_n dX12_as_26 rfl rfl ?_
      refine pm_if_eq (tgt := 55) dX12_as_27 (by decide) (fun c_27 => ?_) (fun c_27 => ?_)
      · refine pm_iconst (v := 1) dX12_as_55 (by decide) ?_
        refine pm_goto (tgt := 60) dX12_as_56 (by decide) ?_
        refine pm_istore_n (lv2 := [(3, _), (0, _), (1, _), (2, _)]) dX12_as_60 rfl (Nat.le_of_ble_eq_true rfl) rfl ?_
        refine pm_iload_n dX12_as_61 rfl rfl ?_
        refine pm_if_eq (tgt := 69) dX12_as_62 (by decide) (fun c_62 => absurd c_62 (by decide)) (fun c_62 => ?_)
        refine pm_iload_n dX12_as_65 rfl rfl ?_
        refine pm_goto (tgt := 70) dX12_as_66 (by decide) ?_
        refine pm_iret dX12_as_70 rfl rfl rfl ?_
        refine th_r ?_ hQ
        rw [th_asA, if_pos (th_okt hi (by omega)), if_pos ⟨u, v⟩, th_n_nI (by omega)]
        rw [if_pos (Or.inl c_27)]
      · refine pm_iload_n dX12_as_30 rfl rfl ?_
        refine pm_aload_n dX12_as_31 rfl rfl ?_
        refine pm_get fl_RX12_25_12 dX12_as_32 rfl rfl ?_
        refine pm_iload_n dX12_as_35 rfl rfl ?_
        refine pm_iald dX12_as_36 rfl (th_in (by omega) (by decide)) ?_
        rw [th_cl (by omega)]
        refine pm_icmp_eq (tgt := 55) dX12_as_37 (by decide) (fun c_37 => ?_) (fun c_37 => ?_)
        · refine pm_iconst (v := 1) dX12_as_55 (by decide) ?_
          refine pm_goto (tgt := 60) dX12_as_56 (by decide) ?_
          refine pm_istore_n (lv2 := [(3, _), (0, _), (1, _), (2, _)]) dX12_as_60 rfl (Nat.le_of_ble_eq_true rfl) rfl ?_
          refine pm_iload_n dX12_as_61 rfl rfl ?_
          refine pm_if_eq (tgt := 69) dX12_as_62 (by decide) (fun c_62 => absurd c_62 (by decide)) (fun c_62 => ?_)
          refine pm_iload_n dX12_as_65 rfl rfl ?_
          refine pm_goto (tgt := 70) dX12_as_66 (by decide) ?_
          refine pm_iret dX12_as_70 rfl rfl rfl ?_
          refine th_r ?_ hQ
          rw [th_asA, if_pos (th_okt hi (by omega)), if_pos ⟨u, v⟩, th_n_nI (by omega)]
          rw [if_pos (Or.inr (Or.inl c_37))]
        · refine pm_iload_n dX12_as_40 rfl rfl ?_
          refine pm_iconst (v := 2) dX12_as_41 (by decide) ?_
          refine pm_icmp_ne (tgt := 59) dX12_as_42 (by decide) (fun c_42 => ?_) (fun c_42 => ?_)
          · refine pm_iconst (v := 0) dX12_as_59 (by decide) ?_
            refine pm_istore_n (lv2 := [(3, _), (0, _), (1, _), (2, _)]) dX12_as_60 rfl (Nat.le_of_ble_eq_true rfl) rfl ?_
            refine pm_iload_n dX12_as_61 rfl rfl ?_
            refine pm_if_eq (tgt := 69) dX12_as_62 (by decide) (fun c_62 => ?_) (fun c_62 => absurd (rfl) c_62)
            refine pm_iconst (v := (-1)) dX12_as_69 (by decide) ?_
            refine pm_iret dX12_as_70 rfl rfl rfl ?_
            refine th_r ?_ hQ
            rw [th_asA, if_pos (th_okt hi (by omega)), if_pos ⟨u, v⟩, th_n_nI (by omega)]
            rw [if_neg (fun z => z.elim c_27 (fun z => z.elim c_37 (fun z => c_42 z.1)))]
          · refine pm_aload_n dX12_as_45 rfl rfl ?_
            refine pm_get fl_RX12_25_12 dX12_as_46 rfl rfl ?_
            refine pm_iload_n dX12_as_49 rfl rfl ?_
            refine pm_iald dX12_as_50 rfl (th_in (by omega) (by decide)) ?_
            rw [th_cl (by omega)]
            refine pm_iconst (v := 3) dX12_as_51 (by decide) ?_
            refine pm_icmp_ne (tgt := 59) dX12_as_52 (by decide) (fun c_52 => ?_) (fun c_52 => ?_)
            · refine pm_iconst (v := 0) dX12_as_59 (by decide) ?_
              refine pm_istore_n (lv2 := [(3, _), (0, _), (1, _), (2, _)]) dX12_as_60 rfl (Nat.le_of_ble_eq_true rfl) rfl ?_
              refine pm_iload_n dX12_as_61 rfl rfl ?_
              refine pm_if_eq (tgt := 69) dX12_as_62 (by decide) (fun c_62 => ?_) (fun c_62 => absurd (rfl) c_62)
              refine pm_iconst (v := (-1)) dX12_as_69 (by decide) ?_
              refine pm_iret dX12_as_70 rfl rfl rfl ?_
              refine th_r ?_ hQ
              rw [th_asA, if_pos (th_okt hi (by omega)), if_pos ⟨u, v⟩, th_n_nI (by omega)]
              rw [if_neg (fun z => z.elim c_27 (fun z => z.elim c_37 (fun z => c_52 z.2)))]
            · refine pm_iconst (v := 1) dX12_as_55 (by decide) ?_
              refine pm_goto (tgt := 60) dX12_as_56 (by decide) ?_
              refine pm_istore_n (lv2 := [(3, _), (0, _), (1, _), (2, _)]) dX12_as_60 rfl (Nat.le_of_ble_eq_true rfl) rfl ?_
              refine pm_iload_n dX12_as_61 rfl rfl ?_
              refine pm_if_eq (tgt := 69) dX12_as_62 (by decide) (fun c_62 => absurd c_62 (by decide)) (fun c_62 => ?_)
              refine pm_iload_n dX12_as_65 rfl rfl ?_
              refine pm_goto (tgt := 70) dX12_as_66 (by decide) ?_
              refine pm_iret dX12_as_70 rfl rfl rfl ?_
              refine th_r ?_ hQ
              rw [th_asA, if_pos (th_okt hi (by omega)), if_pos ⟨u, v⟩, th_n_nI (by omega)]
              rw [if_pos (Or.inr (Or.inr ⟨c_42, c_52⟩))]
    · refine pm_if_ne (tgt := 26) dX12_as_20 (by decide) (fun c_20 => absurd (rfl) c_20) (fun c_20 => ?_)
      refine pm_bipush (v := (-102)) dX12_as_23 (by decide) ?_
      refine pm_iret dX12_as_25 rfl rfl rfl ?_
      refine th_r ?_ hQ
      rw [th_asA, if_pos (th_okt hi (by omega)), if_neg u]
  · refine pm_if_ne (tgt := 11) dX12_as_5 (by decide) (fun c_5 => absurd (rfl) c_5) (fun c_5 => ?_)
    refine pm_bipush (v := (-101)) dX12_as_8 (by decide) ?_
    refine pm_iret dX12_as_10 rfl rfl rfl ?_
    refine th_r ?_ hQ
    rw [th_asA, if_neg (th_okf hn (by omega))]

def th_isk (kd : Nat) (k : Int32) : Int32 := if k = 0 ∨ k = nI kd ∨ (k = 2 ∧ kd = 3) then 1 else 0
set_option maxHeartbeats 600000 in
set_option maxRecDepth 100000 in
theorem c_X11_isOfKind_0 {l : Launch} {G : pm_G} {ad : Nat → Nat → Nat} {w : pm_V} {Q : pm_T} {g k : Nat} {fs : List Value} {z : Int32} (h0 : 0 ≤ z) (h4 : z ≤ 4) (hw : pm_get? w g k = some (.inr (4, fs))) (hQ : Q ad (some (.int (th_isk 0 z))) w) : pm_C l G m_X11_isOfKind [.ref (ad g k), .int z] ad w Q := by
  refine pm_met (by decide) (Nat.le_of_ble_eq_true rfl) ?_
  obtain ⟨n, hn, rfl⟩ := th_03 h0 (n := 4) (by decide) h4
  refine pm_iload_n dX11_isOfKind_0 rfl rfl ?_
  match n, hn with
  | 0, _ =>
    refine pm_tableOut (tgt := 52) dX11_isOfKind_1 (by decide) (by decide) ?_
    refine pm_iconst (v := 1) dX11_isOfKind_52 (by decide) ?_
    refine pm_zret dX11_isOfKind_53 rfl rfl rfl rfl ?_
    exact th_r (by decide) hQ
  | 1, _ =>
    refine pm_tableIn (off := 31) (tgt := 32) dX11_isOfKind_1 (by decide) (by decide) (by decide) (by decide) ?_
    refine pm_aload_n dX11_isOfKind_32 rfl rfl ?_
    refine pm_inst0 (q := (RX4, TX4, 13)) (nm := "ThirtyNine$Old") rfl kw_385 (by decide +kernel) dX11_isOfKind_33 hw ?_
    refine pm_zret dX11_isOfKind_36 rfl rfl rfl rfl ?_
    exact th_r (by decide) hQ
  | 2, _ =>
    refine pm_tableIn (off := 36) (tgt := 37) dX11_isOfKind_1 (by decide) (by decide) (by decide) (by decide) ?_
    refine pm_aload_n dX11_isOfKind_37 rfl rfl ?_
    refine pm_inst0 (q := (RX4, TX4, 13)) (nm := "ThirtyNine$Baked") rfl kw_456 (by decide +kernel) dX11_isOfKind_38 hw ?_
    refine pm_zret dX11_isOfKind_41 rfl rfl rfl rfl ?_
    exact th_r (by decide) hQ
  | 3, _ =>
    refine pm_tableIn (off := 41) (tgt := 42) dX11_isOfKind_1 (by decide) (by decide) (by decide) (by decide) ?_
    refine pm_aload_n dX11_isOfKind_42 rfl rfl ?_
    refine pm_inst0 (q := (RX4, TX4, 13)) (nm := "ThirtyNine$Pickled") rfl kw_476 (by decide +kernel) dX11_isOfKind_43 hw ?_
    refine pm_zret dX11_isOfKind_46 rfl rfl rfl rfl ?_
    exact th_r (by decide) hQ
  | 4, _ =>
    refine pm_tableIn (off := 46) (tgt := 47) dX11_isOfKind_1 (by decide) (by decide) (by decide) (by decide) ?_
    refine pm_aload_n dX11_isOfKind_47 rfl rfl ?_
    refine pm_inst0 (q := (RX4, TX4, 13)) (nm := "ThirtyNine$Paper") rfl kw_496 (by decide +kernel) dX11_isOfKind_48 hw ?_
    refine pm_zret dX11_isOfKind_51 rfl rfl rfl rfl ?_
    exact th_r (by decide) hQ
set_option maxHeartbeats 600000 in
set_option maxRecDepth 100000 in
theorem c_X11_isOfKind_1 {l : Launch} {G : pm_G} {ad : Nat → Nat → Nat} {w : pm_V} {Q : pm_T} {g k : Nat} {fs : List Value} {z : Int32} (h0 : 0 ≤ z) (h4 : z ≤ 4) (hw : pm_get? w g k = some (.inr (5, fs))) (hQ : Q ad (some (.int (th_isk 1 z))) w) : pm_C l G m_X11_isOfKind [.ref (ad g k), .int z] ad w Q := by
  refine pm_met (by decide) (Nat.le_of_ble_eq_true rfl) ?_
  obtain ⟨n, hn, rfl⟩ := th_03 h0 (n := 4) (by decide) h4
  refine pm_iload_n dX11_isOfKind_0 rfl rfl ?_
  match n, hn with
  | 0, _ =>
    refine pm_tableOut (tgt := 52) dX11_isOfKind_1 (by decide) (by decide) ?_
    refine pm_iconst (v := 1) dX11_isOfKind_52 (by decide) ?_
    refine pm_zret dX11_isOfKind_53 rfl rfl rfl rfl ?_
    exact th_r (by decide) hQ
  | 1, _ =>
    refine pm_tableIn (off := 31) (tgt := 32) dX11_isOfKind_1 (by decide) (by decide) (by decide) (by decide) ?_
    refine pm_aload_n dX11_isOfKind_32 rfl rfl ?_
    refine pm_inst1 (q := (RX5, TX5, 13)) (nm := "ThirtyNine$Old") rfl kw_385 (Or.inl rfl) dX11_isOfKind_33 hw ?_
    refine pm_zret dX11_isOfKind_36 rfl rfl rfl rfl ?_
    exact th_r (by decide) hQ
  | 2, _ =>
    refine pm_tableIn (off := 36) (tgt := 37) dX11_isOfKind_1 (by decide) (by decide) (by decide) (by decide) ?_
    refine pm_aload_n dX11_isOfKind_37 rfl rfl ?_
    refine pm_inst0 (q := (RX5, TX5, 13)) (nm := "ThirtyNine$Baked") rfl kw_456 (by decide +kernel) dX11_isOfKind_38 hw ?_
    refine pm_zret dX11_isOfKind_41 rfl rfl rfl rfl ?_
    exact th_r (by decide) hQ
  | 3, _ =>
    refine pm_tableIn (off := 41) (tgt := 42) dX11_isOfKind_1 (by decide) (by decide) (by decide) (by decide) ?_
    refine pm_aload_n dX11_isOfKind_42 rfl rfl ?_
    refine pm_inst0 (q := (RX5, TX5, 13)) (nm := "ThirtyNine$Pickled") rfl kw_476 (by decide +kernel) dX11_isOfKind_43 hw ?_
    refine pm_zret dX11_isOfKind_46 rfl rfl rfl rfl ?_
    exact th_r (by decide) hQ
  | 4, _ =>
    refine pm_tableIn (off := 46) (tgt := 47) dX11_isOfKind_1 (by decide) (by decide) (by decide) (by decide) ?_
    refine pm_aload_n dX11_isOfKind_47 rfl rfl ?_
    refine pm_inst0 (q := (RX5, TX5, 13)) (nm := "ThirtyNine$Paper") rfl kw_496 (by decide +kernel) dX11_isOfKind_48 hw ?_
    refine pm_zret dX11_isOfKind_51 rfl rfl rfl rfl ?_
    exact th_r (by decide) hQ
set_option maxHeartbeats 600000 in
set_option maxRecDepth 100000 in
theorem c_X11_isOfKind_2 {l : Launch} {G : pm_G} {ad : Nat → Nat → Nat} {w : pm_V} {Q : pm_T} {g k : Nat} {fs : List Value} {z : Int32} (h0 : 0 ≤ z) (h4 : z ≤ 4) (hw : pm_get? w g k = some (.inr (0, fs))) (hQ : Q ad (some (.int (th_isk 2 z))) w) : pm_C l G m_X11_isOfKind [.ref (ad g k), .int z] ad w Q := by
  refine pm_met (by decide) (Nat.le_of_ble_eq_true rfl) ?_
  obtain ⟨n, hn, rfl⟩ := th_03 h0 (n := 4) (by decide) h4
  refine pm_iload_n dX11_isOfKind_0 rfl rfl ?_
  match n, hn with
  | 0, _ =>
    refine pm_tableOut (tgt := 52) dX11_isOfKind_1 (by decide) (by decide) ?_
    refine pm_iconst (v := 1) dX11_isOfKind_52 (by decide) ?_
    refine pm_zret dX11_isOfKind_53 rfl rfl rfl rfl ?_
    exact th_r (by decide) hQ
  | 1, _ =>
    refine pm_tableIn (off := 31) (tgt := 32) dX11_isOfKind_1 (by decide) (by decide) (by decide) (by decide) ?_
    refine pm_aload_n dX11_isOfKind_32 rfl rfl ?_
    refine pm_inst0 (q := (RX0, TX0, 13)) (nm := "ThirtyNine$Old") rfl kw_385 (by decide +kernel) dX11_isOfKind_33 hw ?_
    refine pm_zret dX11_isOfKind_36 rfl rfl rfl rfl ?_
    exact th_r (by decide) hQ
  | 2, _ =>
    refine pm_tableIn (off := 36) (tgt := 37) dX11_isOfKind_1 (by decide) (by decide) (by decide) (by decide) ?_
    refine pm_aload_n dX11_isOfKind_37 rfl rfl ?_
    refine pm_inst1 (q := (RX0, TX0, 13)) (nm := "ThirtyNine$Baked") rfl kw_456 (Or.inl rfl) dX11_isOfKind_38 hw ?_
    refine pm_zret dX11_isOfKind_41 rfl rfl rfl rfl ?_
    exact th_r (by decide) hQ
  | 3, _ =>
    refine pm_tableIn (off := 41) (tgt := 42) dX11_isOfKind_1 (by decide) (by decide) (by decide) (by decide) ?_
    refine pm_aload_n dX11_isOfKind_42 rfl rfl ?_
    refine pm_inst0 (q := (RX0, TX0, 13)) (nm := "ThirtyNine$Pickled") rfl kw_476 (by decide +kernel) dX11_isOfKind_43 hw ?_
    refine pm_zret dX11_isOfKind_46 rfl rfl rfl rfl ?_
    exact th_r (by decide) hQ
  | 4, _ =>
    refine pm_tableIn (off := 46) (tgt := 47) dX11_isOfKind_1 (by decide) (by decide) (by decide) (by decide) ?_
    refine pm_aload_n dX11_isOfKind_47 rfl rfl ?_
    refine pm_inst0 (q := (RX0, TX0, 13)) (nm := "ThirtyNine$Paper") rfl kw_496 (by decide +kernel) dX11_isOfKind_48 hw ?_
    refine pm_zret dX11_isOfKind_51 rfl rfl rfl rfl ?_
    exact th_r (by decide) hQ
set_option maxHeartbeats 600000 in
set_option maxRecDepth 100000 in
theorem c_X11_isOfKind_3 {l : Launch} {G : pm_G} {ad : Nat → Nat → Nat} {w : pm_V} {Q : pm_T} {g k : Nat} {fs : List Value} {z : Int32} (h0 : 0 ≤ z) (h4 : z ≤ 4) (hw : pm_get? w g k = some (.inr (8, fs))) (hQ : Q ad (some (.int (th_isk 3 z))) w) : pm_C l G m_X11_isOfKind [.ref (ad g k), .int z] ad w Q := by
  refine pm_met (by decide) (Nat.le_of_ble_eq_true rfl) ?_
  obtain ⟨n, hn, rfl⟩ := th_03 h0 (n := 4) (by decide) h4
  refine pm_iload_n dX11_isOfKind_0 rfl rfl ?_
  match n, hn with
  | 0, _ =>
    refine pm_tableOut (tgt := 52) dX11_isOfKind_1 (by decide) (by decide) ?_
    refine pm_iconst (v := 1) dX11_isOfKind_52 (by decide) ?_
    refine pm_zret dX11_isOfKind_53 rfl rfl rfl rfl ?_
    exact th_r (by decide) hQ
  | 1, _ =>
    refine pm_tableIn (off := 31) (tgt := 32) dX11_isOfKind_1 (by decide) (by decide) (by decide) (by decide) ?_
    refine pm_aload_n dX11_isOfKind_32 rfl rfl ?_
    refine pm_inst0 (q := (RX8, TX8, 13)) (nm := "ThirtyNine$Old") rfl kw_385 (by decide +kernel) dX11_isOfKind_33 hw ?_
    refine pm_zret dX11_isOfKind_36 rfl rfl rfl rfl ?_
    exact th_r (by decide) hQ
  | 2, _ =>
    refine pm_tableIn (off := 36) (tgt := 37) dX11_isOfKind_1 (by decide) (by decide) (by decide) (by decide) ?_
    refine pm_aload_n dX11_isOfKind_37 rfl rfl ?_
    refine pm_inst1 (q := (RX8, TX8, 13)) (nm := "ThirtyNine$Baked") rfl kw_456 (Or.inr kw_1374) dX11_isOfKind_38 hw ?_
    refine pm_zret dX11_isOfKind_41 rfl rfl rfl rfl ?_
    exact th_r (by decide) hQ
  | 3, _ =>
    refine pm_tableIn (off := 41) (tgt := 42) dX11_isOfKind_1 (by decide) (by decide) (by decide) (by decide) ?_
    refine pm_aload_n dX11_isOfKind_42 rfl rfl ?_
    refine pm_inst1 (q := (RX8, TX8, 13)) (nm := "ThirtyNine$Pickled") rfl kw_476 (Or.inl rfl) dX11_isOfKind_43 hw ?_
    refine pm_zret dX11_isOfKind_46 rfl rfl rfl rfl ?_
    exact th_r (by decide) hQ
  | 4, _ =>
    refine pm_tableIn (off := 46) (tgt := 47) dX11_isOfKind_1 (by decide) (by decide) (by decide) (by decide) ?_
    refine pm_aload_n dX11_isOfKind_47 rfl rfl ?_
    refine pm_inst0 (q := (RX8, TX8, 13)) (nm := "ThirtyNine$Paper") rfl kw_496 (by decide +kernel) dX11_isOfKind_48 hw ?_
    refine pm_zret dX11_isOfKind_51 rfl rfl rfl rfl ?_
    exact th_r (by decide) hQ
set_option maxHeartbeats 600000 in
set_option maxRecDepth 100000 in
theorem c_X11_isOfKind_4 {l : Launch} {G : pm_G} {ad : Nat → Nat → Nat} {w : pm_V} {Q : pm_T} {g k : Nat} {fs : List Value} {z : Int32} (h0 : 0 ≤ z) (h4 : z ≤ 4) (hw : pm_get? w g k = some (.inr (7, fs))) (hQ : Q ad (some (.int (th_isk 4 z))) w) : pm_C l G m_X11_isOfKind [.ref (ad g k), .int z] ad w Q := by
  refine pm_met (by decide) (Nat.le_of_ble_eq_true rfl) ?_
  obtain ⟨n, hn, rfl⟩ := th_03 h0 (n := 4) (by decide) h4
  refine pm_iload_n dX11_isOfKind_0 rfl rfl ?_
  match n, hn with
  | 0, _ =>
    refine pm_tableOut (tgt := 52) dX11_isOfKind_1 (by decide) (by decide) ?_
    refine pm_iconst (v := 1) dX11_isOfKind_52 (by decide) ?_
    refine pm_zret dX11_isOfKind_53 rfl rfl rfl rfl ?_
    exact th_r (by decide) hQ
  | 1, _ =>
    refine pm_tableIn (off := 31) (tgt := 32) dX11_isOfKind_1 (by decide) (by decide) (by decide) (by decide) ?_
    refine pm_aload_n dX11_isOfKind_32 rfl rfl ?_
    refine pm_inst0 (q := (RX7, TX7, 13)) (nm := "ThirtyNine$Old") rfl kw_385 (by decide +kernel) dX11_isOfKind_33 hw ?_
    refine pm_zret dX11_isOfKind_36 rfl rfl rfl rfl ?_
    exact th_r (by decide) hQ
  | 2, _ =>
    refine pm_tableIn (off := 36) (tgt := 37) dX11_isOfKind_1 (by decide) (by decide) (by decide) (by decide) ?_
    refine pm_aload_n dX11_isOfKind_37 rfl rfl ?_
    refine pm_inst0 (q := (RX7, TX7, 13)) (nm := "ThirtyNine$Baked") rfl kw_456 (by decide +kernel) dX11_isOfKind_38 hw ?_
    refine pm_zret dX11_isOfKind_41 rfl rfl rfl rfl ?_
    exact th_r (by decide) hQ
  | 3, _ =>
    refine pm_tableIn (off := 41) (tgt := 42) dX11_isOfKind_1 (by decide) (by decide) (by decide) (by decide) ?_
    refine pm_aload_n dX11_isOfKind_42 rfl rfl ?_
    refine pm_inst0 (q := (RX7, TX7, 13)) (nm := "ThirtyNine$Pickled") rfl kw_476 (by decide +kernel) dX11_isOfKind_43 hw ?_
    refine pm_zret dX11_isOfKind_46 rfl rfl rfl rfl ?_
    exact th_r (by decide) hQ
  | 4, _ =>
    refine pm_tableIn (off := 46) (tgt := 47) dX11_isOfKind_1 (by decide) (by decide) (by decide) (by decide) ?_
    refine pm_aload_n dX11_isOfKind_47 rfl rfl ?_
    refine pm_inst1 (q := (RX7, TX7, 13)) (nm := "ThirtyNine$Paper") rfl kw_496 (Or.inl rfl) dX11_isOfKind_48 hw ?_
    refine pm_zret dX11_isOfKind_51 rfl rfl rfl rfl ?_
    exact th_r (by decide) hQ
theorem c_X11_isOfKind {l : Launch} {G : pm_G} {ad : Nat → Nat → Nat} {w : pm_V} {Q : pm_T} {g k kd : Nat} {fs : List Value} {z : Int32} (hk : kd ≤ 4) (h0 : 0 ≤ z) (h4 : z ≤ 4) (hw : pm_get? w g k = some (.inr (pm_kc kd, fs))) (hQ : Q ad (some (.int (th_isk kd z))) w) : pm_C l G m_X11_isOfKind [.ref (ad g k), .int z] ad w Q := by
  match kd, hk, hw, hQ with
  | 0, _, hw, hQ => exact c_X11_isOfKind_0 h0 h4 hw hQ
  | 1, _, hw, hQ => exact c_X11_isOfKind_1 h0 h4 hw hQ
  | 2, _, hw, hQ => exact c_X11_isOfKind_2 h0 h4 hw hQ
  | 3, _, hw, hQ => exact c_X11_isOfKind_3 h0 h4 hw hQ
  | 4, _, hw, hQ => exact c_X11_isOfKind_4 h0 h4 hw hQ
set_option maxHeartbeats 600000 in
set_option maxRecDepth 100000 in
theorem c_X11_as {l : Launch} {G : pm_G} {ad : Nat → Nat → Nat} {S : Nat → Nat} {A : Nat → Nat → Int32} {X : Nat → Int32} {Y : Nat → Nat → Int32} {F : Nat → Int64} {Hd Cs : Nat → Option Nat} {m : List pm_A} {Q : pm_T} {x k : Int32} (hI : th_I S A) (hQ : Q ad (some (.int (th_asA S A x k))) (th_cw ad S A X Y F Hd Cs m)) : pm_C l G m_X11_as [.ref (ad 0 0), .int x, .int k] ad (th_cw ad S A X Y F Hd Cs m) Q := by
  have h8 : S 11 ≤ 8 := hI.2.2.2.2.1.1
  refine pm_met (by decide) (Nat.le_of_ble_eq_true rfl) ?_
  refine pm_aload_n dX11_as_0 rfl rfl ?_
  refine pm_iload_n dX11_as_1 rfl rfl ?_
  refine pm_callV (M2 := m_X11_nutOf) (As := [_]) ok_X11_nutOf (ci := 11) rfl kw_545 kw_547 kw_5 dX11_as_2 rfl rfl rfl (Nat.le_of_ble_eq_true rfl) ⟨⟨Nat.le_of_ble_eq_true rfl, Nat.le_of_ble_eq_true rfl⟩, Nat.le_of_ble_eq_true rfl, Nat.le_of_ble_eq_true rfl⟩ ?_
  refine c_X11_nutOf h8 (fun i hi e => ?_) (fun hn => ?_)
  · subst e
    obtain ⟨kd, hkd, ekd⟩ := (hI.2.2.2.2.1.2.1 i hi).1
    have hw : pm_get? (th_cw ad S A X Y F Hd Cs m) 2 i = some (.inr (pm_kc (th_n (A 6 i)), th_nf ad A Y i)) := th_nt_get hi
    rw [ekd, th_n_nI (by omega)] at hw
    refine pm_astore_n (lv2 := [(3, _), (0, _), (1, _), (2, _)]) dX11_as_5 rfl (Nat.le_of_ble_eq_true rfl) rfl ?_
    refine pm_aload_n dX11_as_6 rfl rfl ?_
    refine pm_ifnonnull (tgt := 13) dX11_as_7 (by decide) ?_
    refine pm_iload_n dX11_as_13 rfl rfl ?_
    refine pm_iconst (v := 0) dX11_as_14 (by decide) ?_
    refine pm_iconst (v := 4) dX11_as_15 (by decide) ?_
    refine pm_callS (M2 := m_X11_isOutside) (As := [_, _, _]) ok_X11_isOutside kw_361 kw_362 dX11_as_16 rfl rfl (Nat.le_of_ble_eq_true rfl) ⟨⟨Nat.le_of_ble_eq_true rfl, Nat.le_of_ble_eq_true rfl⟩, Nat.le_of_ble_eq_true rfl, Nat.le_of_ble_eq_true rfl⟩ ?_
    refine c_X11_isOutside (fun u => ?_) (fun u v => ?_)
    · refine pm_if_eq (tgt := 25) dX11_as_19 (by decide) (fun c_19 => absurd c_19 (by decide)) (fun c_19 => ?_)
      refine pm_bipush (v := (-102)) dX11_as_22 (by decide) ?_
      refine pm_iret dX11_as_24 rfl rfl rfl ?_
      refine th_r ?_ hQ
      rw [th_asA, if_pos (th_okt hi (by omega)), if_neg u]
    · refine pm_if_eq (tgt := 25) dX11_as_19 (by decide) (fun c_19 => ?_) (fun c_19 => absurd (rfl) c_19)
      refine pm_aload_n dX11_as_25 rfl rfl ?_
      refine pm_iload_n dX11_as_26 rfl rfl ?_
      refine pm_callS (M2 := m_X11_isOfKind) (As := [_, _]) ok_X11_isOfKind kw_549 kw_550 dX11_as_27 rfl rfl (Nat.le_of_ble_eq_true rfl) ⟨⟨Nat.le_of_ble_eq_true rfl, Nat.le_of_ble_eq_true rfl⟩, Nat.le_of_ble_eq_true rfl, Nat.le_of_ble_eq_true rfl⟩ ?_
      refine c_X11_isOfKind hkd u v hw ?_
      unfold th_isk
      by_cases hz : k = 0 ∨ k = nI kd ∨ (k = 2 ∧ kd = 3)
      · rw [if_pos hz]
        refine pm_if_eq (tgt := 40) dX11_as_30 (by decide) (fun c_30 => absurd c_30 (by decide)) (fun c_30 => ?_)
        refine pm_aload_n dX11_as_33 rfl rfl ?_
        refine pm_get (fn_RX11_114 _) dX11_as_34 hw rfl ?_
        refine pm_goto (tgt := 41) dX11_as_37 (by decide) ?_
        refine pm_iret dX11_as_41 rfl rfl rfl ?_
        refine th_r ?_ hQ
        rw [th_asA, if_pos (th_okt hi (by omega)), if_pos ⟨u, v⟩, th_n_nI (by omega), ekd]
        rw [if_pos]
        exact hz.elim Or.inl (fun q => Or.inr (q.elim Or.inl (fun q => Or.inr ⟨q.1, by rw [q.2]; rfl⟩)))
      · rw [if_neg hz]
        refine pm_if_eq (tgt := 40) dX11_as_30 (by decide) (fun c_30 => ?_) (fun c_30 => absurd (rfl) c_30)
        refine pm_iconst (v := (-1)) dX11_as_40 (by decide) ?_
        refine pm_iret dX11_as_41 rfl rfl rfl ?_
        refine th_r ?_ hQ
        rw [th_asA, if_pos (th_okt hi (by omega)), if_pos ⟨u, v⟩, th_n_nI (by omega), ekd]
        rw [if_neg]
        exact fun q => hz (q.elim Or.inl (fun q => Or.inr (q.elim Or.inl (fun q => Or.inr ⟨q.1, (nI_eq (b := 3) (by omega) (by decide)).mp q.2⟩))))
  · refine pm_nstore_n (lv2 := [(3, _), (0, _), (1, _), (2, _)]) dX11_as_5 rfl (Nat.le_of_ble_eq_true rfl) rfl ?_
    refine pm_nload_n dX11_as_6 rfl rfl ?_
    refine pm_ifnonnullN dX11_as_7 ?_
    refine pm_bipush (v := (-101)) dX11_as_10 (by decide) ?_
    refine pm_iret dX11_as_12 rfl rfl rfl ?_
    refine th_r ?_ hQ
    rw [th_asA, if_neg (th_okf hn (by omega))]

def th_abt (A : Nat → Nat → Int32) (i : Nat) (z : Int32) : Int32 := if z = 0 then A 6 i else if z = 1 then A 7 i else if z = 2 then A 8 i else if z = 3 then pm_hd (th_n (A 6 i)) (A 8 i) else if z = 4 then A 11 i else if z = 5 then A 10 i else if z = 6 then A 12 i else if z = 7 then (if A 13 i = 0 then 0 else 1) else -102
def th_aboutA (S : Nat → Nat) (A : Nat → Nat → Int32) (x z : Int32) : Int32 := if th_ok x (S 11) then th_abt A (th_n x) z else -101
theorem th_kn : ∀ kd, kd ≤ 4 → pm_kn kd = nI kd := by
  intro kd h
  match kd, h with
  | 0, _ => rfl
  | 1, _ => rfl
  | 2, _ => rfl
  | 3, _ => rfl
  | 4, _ => rfl
set_option maxHeartbeats 600000 in
set_option maxRecDepth 100000 in
theorem c_X12_aboutOf {l : Launch} {G : pm_G} {ad : Nat → Nat → Nat} {a0 a3 a4 a5 a6 a7 : List pm_A} {a1 a2 : Nat → Option pm_A} {S : Nat → Nat} {A : Nat → Nat → Int32} {s : Nat → Int32} {B : Nat → Nat → Int32} {hs : Int64} {Q : pm_T} {i kd : Nat} {z : Int32} (hi : i < 8) (hk : kd ≤ 4) (he : A 6 i = nI kd) (hQ : Q ad (some (.int (th_abt A i z))) (a0, a1, a2, a3, a4, a5, a6, a7, th_mp ad S A s B hs)) : pm_C l G m_X12_aboutOf [.ref (ad 8 0), .int (nI i), .int z] ad (a0, a1, a2, a3, a4, a5, a6, a7, th_mp ad S A s B hs) Q := by
  refine pm_met (by decide) (Nat.le_of_ble_eq_true rfl) ?_
  refine pm_iload_n dX12_aboutOf_0 rfl rfl ?_
  by_cases s_1_0 : z = 0
  · refine pm_tableIn (off := 47) (tgt := 48) dX12_aboutOf_1 (by rw [s_1_0]; decide) (by rw [s_1_0]; decide) (by rw [s_1_0]; decide) (by decide) ?_
    refine pm_aload_n dX12_aboutOf_48 rfl rfl ?_
    refine pm_get fl_RX12_25_12 dX12_aboutOf_49 rfl rfl ?_
    refine pm_iload_n dX12_aboutOf_52 rfl rfl ?_
    refine pm_iald dX12_aboutOf_53 rfl (th_in hi (by decide)) ?_
    rw [th_cl (by omega)]
    refine pm_iret dX12_aboutOf_54 rfl rfl rfl ?_
    refine th_r ?_ hQ
    simp [th_abt, s_1_0]
  · skip
    by_cases s_1_1 : z = 1
    · refine pm_tableIn (off := 54) (tgt := 55) dX12_aboutOf_1 (by rw [s_1_1]; decide) (by rw [s_1_1]; decide) (by rw [s_1_1]; decide) (by decide) ?_
      refine pm_aload_n dX12_aboutOf_55 rfl rfl ?_
      refine pm_get fl_RX12_28_12 dX12_aboutOf_56 rfl rfl ?_
      refine pm_iload_n dX12_aboutOf_59 rfl rfl ?_
      refine pm_iald dX12_aboutOf_60 rfl (th_in hi (by decide)) ?_
      rw [th_cl (by omega)]
      refine pm_iret dX12_aboutOf_61 rfl rfl rfl ?_
      refine th_r ?_ hQ
      simp [th_abt, s_1_0, s_1_1]
    · skip
      by_cases s_1_2 : z = 2
      · refine pm_tableIn (off := 61) (tgt := 62) dX12_aboutOf_1 (by rw [s_1_2]; decide) (by rw [s_1_2]; decide) (by rw [s_1_2]; decide) (by decide) ?_
        refine pm_aload_n dX12_aboutOf_62 rfl rfl ?_
        refine pm_get fl_RX12_31_12 dX12_aboutOf_63 rfl rfl ?_
        refine pm_iload_n dX12_aboutOf_66 rfl rfl ?_
        refine pm_iald dX12_aboutOf_67 rfl (th_in hi (by decide)) ?_
        rw [th_cl (by omega)]
        refine pm_iret dX12_aboutOf_68 rfl rfl rfl ?_
        refine th_r ?_ hQ
        simp [th_abt, s_1_0, s_1_1, s_1_2]
      · skip
        by_cases s_1_3 : z = 3
        · refine pm_tableIn (off := 68) (tgt := 69) dX12_aboutOf_1 (by rw [s_1_3]; decide) (by rw [s_1_3]; decide) (by rw [s_1_3]; decide) (by decide) ?_
          refine pm_aload_n dX12_aboutOf_69 rfl rfl ?_
          refine pm_iload_n dX12_aboutOf_70 rfl rfl ?_
          refine pm_callV (M2 := m_X12_hard) (As := [_]) ok_X12_hard (ci := 12) rfl kw_1166 kw_1168 kw_26 dX12_aboutOf_71 rfl rfl rfl (Nat.le_of_ble_eq_true rfl) ⟨⟨Nat.le_of_ble_eq_true rfl, Nat.le_of_ble_eq_true rfl⟩, Nat.le_of_ble_eq_true rfl, Nat.le_of_ble_eq_true rfl⟩ ?_
          refine c_X12_hard hi hk he ?_
          refine pm_iret dX12_aboutOf_74 rfl rfl rfl ?_
          refine th_r ?_ hQ
          simp [th_abt, he, th_n_nI (show kd < 2 ^ 31 by omega), s_1_0, s_1_1, s_1_2, s_1_3]
        · skip
          by_cases s_1_4 : z = 4
          · refine pm_tableIn (off := 74) (tgt := 75) dX12_aboutOf_1 (by rw [s_1_4]; decide) (by rw [s_1_4]; decide) (by rw [s_1_4]; decide) (by decide) ?_
            refine pm_aload_n dX12_aboutOf_75 rfl rfl ?_
            refine pm_get fl_RX12_40_12 dX12_aboutOf_76 rfl rfl ?_
            refine pm_iload_n dX12_aboutOf_79 rfl rfl ?_
            refine pm_iald dX12_aboutOf_80 rfl (th_in hi (by decide)) ?_
            rw [th_cl (by omega)]
            refine pm_iret dX12_aboutOf_81 rfl rfl rfl ?_
            refine th_r ?_ hQ
            simp [th_abt, s_1_0, s_1_1, s_1_2, s_1_3, s_1_4]
          · skip
            by_cases s_1_5 : z = 5
            · refine pm_tableIn (off := 81) (tgt := 82) dX12_aboutOf_1 (by rw [s_1_5]; decide) (by rw [s_1_5]; decide) (by rw [s_1_5]; decide) (by decide) ?_
              refine pm_aload_n dX12_aboutOf_82 rfl rfl ?_
              refine pm_get fl_RX12_37_12 dX12_aboutOf_83 rfl rfl ?_
              refine pm_iload_n dX12_aboutOf_86 rfl rfl ?_
              refine pm_iald dX12_aboutOf_87 rfl (th_in hi (by decide)) ?_
              rw [th_cl (by omega)]
              refine pm_iret dX12_aboutOf_88 rfl rfl rfl ?_
              refine th_r ?_ hQ
              simp [th_abt, s_1_0, s_1_1, s_1_2, s_1_3, s_1_4, s_1_5]
            · skip
              by_cases s_1_6 : z = 6
              · refine pm_tableIn (off := 88) (tgt := 89) dX12_aboutOf_1 (by rw [s_1_6]; decide) (by rw [s_1_6]; decide) (by rw [s_1_6]; decide) (by decide) ?_
                refine pm_aload_n dX12_aboutOf_89 rfl rfl ?_
                refine pm_get fl_RX12_43_12 dX12_aboutOf_90 rfl rfl ?_
                refine pm_iload_n dX12_aboutOf_93 rfl rfl ?_
                refine pm_iald dX12_aboutOf_94 rfl (th_in hi (by decide)) ?_
                rw [th_cl (by omega)]
                refine pm_iret dX12_aboutOf_95 rfl rfl rfl ?_
                refine th_r ?_ hQ
                simp [th_abt, s_1_0, s_1_1, s_1_2, s_1_3, s_1_4, s_1_5, s_1_6]
              · skip
                by_cases s_1_7 : z = 7
                · refine pm_tableIn (off := 95) (tgt := 96) dX12_aboutOf_1 (by rw [s_1_7]; decide) (by rw [s_1_7]; decide) (by rw [s_1_7]; decide) (by decide) ?_
                  refine pm_aload_n dX12_aboutOf_96 rfl rfl ?_
                  refine pm_get fl_RX12_46_12 dX12_aboutOf_97 rfl rfl ?_
                  refine pm_iload_n dX12_aboutOf_100 rfl rfl ?_
                  refine pm_zald dX12_aboutOf_101 rfl (th_in hi (by decide)) ?_
                  rw [th_cl (by omega)]
                  refine pm_if_eq (tgt := 109) dX12_aboutOf_102 (by decide) (fun c_102 => ?_) (fun c_102 => ?_)
                  · refine pm_iconst (v := 0) dX12_aboutOf_109 (by decide) ?_
                    refine pm_iret dX12_aboutOf_110 rfl rfl rfl ?_
                    refine th_r ?_ hQ
                    simp [th_abt, s_1_0, s_1_1, s_1_2, s_1_3, s_1_4, s_1_5, s_1_6, s_1_7, c_102]
                  · refine pm_iconst (v := 1) dX12_aboutOf_105 (by decide) ?_
                    refine pm_goto (tgt := 110) dX12_aboutOf_106 (by decide) ?_
                    refine pm_iret dX12_aboutOf_110 rfl rfl rfl ?_
                    refine th_r ?_ hQ
                    simp [th_abt, s_1_0, s_1_1, s_1_2, s_1_3, s_1_4, s_1_5, s_1_6, s_1_7, c_102]
                · skip
                  refine pm_tableOut (tgt := 111) dX12_aboutOf_1 (by have q0 := th_ne s_1_0 (z := 0) (by decide); have q1 := th_ne s_1_1 (z := 1) (by decide); have q2 := th_ne s_1_2 (z := 2) (by decide); have q3 := th_ne s_1_3 (z := 3) (by decide); have q4 := th_ne s_1_4 (z := 4) (by decide); have q5 := th_ne s_1_5 (z := 5) (by decide); have q6 := th_ne s_1_6 (z := 6) (by decide); have q7 := th_ne s_1_7 (z := 7) (by decide); omega) (by decide) ?_
                  refine pm_bipush (v := (-102)) dX12_aboutOf_111 (by decide) ?_
                  refine pm_iret dX12_aboutOf_113 rfl rfl rfl ?_
                  refine th_r ?_ hQ
                  simp [th_abt, s_1_0, s_1_1, s_1_2, s_1_3, s_1_4, s_1_5, s_1_6, s_1_7]

set_option maxHeartbeats 600000 in
set_option maxRecDepth 100000 in
theorem c_X12_about {l : Launch} {G : pm_G} {ad : Nat → Nat → Nat} {a0 a3 a4 a5 a6 a7 : List pm_A} {a1 a2 : Nat → Option pm_A} {S : Nat → Nat} {A : Nat → Nat → Int32} {s : Nat → Int32} {B : Nat → Nat → Int32} {hs : Int64} {Q : pm_T} {x z : Int32} (hI : th_I S A) (hQ : Q ad (some (.int (th_aboutA S A x z))) (a0, a1, a2, a3, a4, a5, a6, a7, th_mp ad S A s B hs)) : pm_C l G m_X12_about [.ref (ad 8 0), .int x, .int z] ad (a0, a1, a2, a3, a4, a5, a6, a7, th_mp ad S A s B hs) Q := by
  have h8 : S 11 ≤ 8 := hI.2.2.2.2.1.1
  refine pm_met (by decide) (Nat.le_of_ble_eq_true rfl) ?_
  refine pm_aload_n dX12_about_0 rfl rfl ?_
  refine pm_iload_n dX12_about_1 rfl rfl ?_
  refine pm_callV (M2 := m_X12_isNut) (As := [_]) ok_X12_isNut (ci := 12) rfl kw_1154 kw_1156 kw_24 dX12_about_2 rfl rfl rfl (Nat.le_of_ble_eq_true rfl) ⟨⟨Nat.le_of_ble_eq_true rfl, Nat.le_of_ble_eq_true rfl⟩, Nat.le_of_ble_eq_true rfl, Nat.le_of_ble_eq_true rfl⟩ ?_
  refine c_X12_isNut h8 (fun i hi e => ?_) (fun hn => ?_)
  · subst e
    refine pm_if_eq (tgt := 17) dX12_about_5 (by decide) (fun c_5 => absurd c_5 (by decide)) (fun c_5 => ?_)
    refine pm_aload_n dX12_about_8 rfl rfl ?_
    refine pm_iload_n dX12_about_9 rfl rfl ?_
    refine pm_iload_n dX12_about_10 rfl rfl ?_
    refine pm_callV (M2 := m_X12_aboutOf) (As := [_, _]) ok_X12_aboutOf (ci := 12) rfl kw_1162 kw_1164 kw_25 dX12_about_11 rfl rfl rfl (Nat.le_of_ble_eq_true rfl) ⟨⟨Nat.le_of_ble_eq_true rfl, Nat.le_of_ble_eq_true rfl⟩, Nat.le_of_ble_eq_true rfl, Nat.le_of_ble_eq_true rfl⟩ ?_
    obtain ⟨kd, hkd, ekd⟩ := (hI.2.2.2.2.1.2.1 i hi).1
    refine c_X12_aboutOf (by omega) hkd ekd ?_
    refine pm_goto (tgt := 19) dX12_about_14 (by decide) ?_
    refine pm_iret dX12_about_19 rfl rfl rfl ?_
    refine th_r ?_ hQ
    rw [th_aboutA, if_pos (th_okt hi (by omega)), th_n_nI (by omega)]
  · refine pm_if_eq (tgt := 17) dX12_about_5 (by decide) (fun c_5 => ?_) (fun c_5 => absurd (rfl) c_5)
    refine pm_bipush (v := (-101)) dX12_about_17 (by decide) ?_
    refine pm_iret dX12_about_19 rfl rfl rfl ?_
    refine th_r ?_ hQ
    rw [th_aboutA, if_neg (th_okf hn (by omega))]

set_option maxHeartbeats 600000 in
set_option maxRecDepth 100000 in
theorem c_X4_tell {l : Launch} {G : pm_G} {ad : Nat → Nat → Nat} {w : pm_V} {Q : pm_T} {A Y : Nat → Nat → Int32} {i kd sc : Nat} {z : Int32} (hk : kd ≤ 4) (ek : A 6 i = nI kd) (es : A 7 i = nI sc) (hs : sc < 3) (h0 : 0 ≤ z) (h7 : z ≤ 7) (hw : pm_get? w 2 i = some (.inr (pm_kc kd, th_nf ad A Y i))) (hv : pm_get? w 1 sc = some (.inr (10, th_sf A sc))) (hQ : Q ad (some (.int (th_abt A i z))) w) : pm_C l G m_X4_tell [.ref (ad 2 i), .int z] ad w Q := by
  refine pm_met (by decide) (Nat.le_of_ble_eq_true rfl) ?_
  refine pm_iload_n dX4_tell_0 rfl rfl ?_
  by_cases s_1_0 : z = 0
  · refine pm_tableIn (off := 43) (tgt := 44) dX4_tell_1 (by rw [s_1_0]; decide) (by rw [s_1_0]; decide) (by rw [s_1_0]; decide) (by decide) ?_
    refine pm_aload_n dX4_tell_44 rfl rfl ?_
    refine cn_RX4_34 (M := m_X4_tell) (st := []) dX4_tell_45 hw rfl (Nat.le_of_ble_eq_true rfl) ⟨⟨Nat.le_of_ble_eq_true rfl, Nat.le_of_ble_eq_true rfl⟩, Nat.le_of_ble_eq_true rfl, Nat.le_of_ble_eq_true rfl⟩ ?_
    refine pm_iret dX4_tell_48 rfl rfl rfl ?_
    refine th_r ?_ hQ
    rw [th_kn kd hk, ← ek]
    simp [th_abt, s_1_0]
  · skip
    by_cases s_1_1 : z = 1
    · refine pm_tableIn (off := 48) (tgt := 49) dX4_tell_1 (by rw [s_1_1]; decide) (by rw [s_1_1]; decide) (by rw [s_1_1]; decide) (by decide) ?_
      refine pm_aload_n dX4_tell_49 rfl rfl ?_
      refine pm_get (fn_RX4_15 _) dX4_tell_50 hw rfl ?_
      rw [es, th_n_nI (by omega)]
      refine pm_get fl_RX4_38_10 dX4_tell_53 hv rfl ?_
      refine pm_iret dX4_tell_56 rfl rfl rfl ?_
      refine th_r ?_ hQ
      rw [← es]
      simp [th_abt, s_1_0, s_1_1]
    · skip
      by_cases s_1_2 : z = 2
      · refine pm_tableIn (off := 56) (tgt := 57) dX4_tell_1 (by rw [s_1_2]; decide) (by rw [s_1_2]; decide) (by rw [s_1_2]; decide) (by decide) ?_
        refine pm_aload_n dX4_tell_57 rfl rfl ?_
        refine pm_get (fn_RX4_19 _) dX4_tell_58 hw rfl ?_
        refine pm_iret dX4_tell_61 rfl rfl rfl ?_
        refine th_r ?_ hQ
        simp [th_abt, s_1_0, s_1_1, s_1_2]
      · skip
        by_cases s_1_3 : z = 3
        · refine pm_tableIn (off := 61) (tgt := 62) dX4_tell_1 (by rw [s_1_3]; decide) (by rw [s_1_3]; decide) (by rw [s_1_3]; decide) (by decide) ?_
          refine pm_aload_n dX4_tell_62 rfl rfl ?_
          refine cn_RX4_41 (M := m_X4_tell) (st := []) dX4_tell_63 hw rfl (Nat.le_of_ble_eq_true rfl) ⟨⟨Nat.le_of_ble_eq_true rfl, Nat.le_of_ble_eq_true rfl⟩, Nat.le_of_ble_eq_true rfl, Nat.le_of_ble_eq_true rfl⟩ ?_
          refine pm_iret dX4_tell_66 rfl rfl rfl ?_
          refine th_r ?_ hQ
          simp [th_abt, ek, th_n_nI (show kd < 2 ^ 31 by omega), s_1_0, s_1_1, s_1_2, s_1_3]
        · skip
          by_cases s_1_4 : z = 4
          · refine pm_tableIn (off := 66) (tgt := 67) dX4_tell_1 (by rw [s_1_4]; decide) (by rw [s_1_4]; decide) (by rw [s_1_4]; decide) (by decide) ?_
            refine pm_aload_n dX4_tell_67 rfl rfl ?_
            refine pm_get (fn_RX4_28 _) dX4_tell_68 hw rfl ?_
            refine pm_iret dX4_tell_71 rfl rfl rfl ?_
            refine th_r ?_ hQ
            simp [th_abt, s_1_0, s_1_1, s_1_2, s_1_3, s_1_4]
          · skip
            by_cases s_1_5 : z = 5
            · refine pm_tableIn (off := 71) (tgt := 72) dX4_tell_1 (by rw [s_1_5]; decide) (by rw [s_1_5]; decide) (by rw [s_1_5]; decide) (by decide) ?_
              refine pm_aload_n dX4_tell_72 rfl rfl ?_
              refine pm_get (fn_RX4_31 _) dX4_tell_73 hw rfl ?_
              refine pm_iret dX4_tell_76 rfl rfl rfl ?_
              refine th_r ?_ hQ
              simp [th_abt, s_1_0, s_1_1, s_1_2, s_1_3, s_1_4, s_1_5]
            · skip
              by_cases s_1_6 : z = 6
              · refine pm_tableIn (off := 76) (tgt := 77) dX4_tell_1 (by rw [s_1_6]; decide) (by rw [s_1_6]; decide) (by rw [s_1_6]; decide) (by decide) ?_
                refine pm_aload_n dX4_tell_77 rfl rfl ?_
                refine pm_get (fn_RX4_44 _) dX4_tell_78 hw rfl ?_
                refine pm_iret dX4_tell_81 rfl rfl rfl ?_
                refine th_r ?_ hQ
                simp [th_abt, s_1_0, s_1_1, s_1_2, s_1_3, s_1_4, s_1_5, s_1_6]
              · skip
                refine pm_tableOut (tgt := 82) dX4_tell_1 (by have q0 := th_ne s_1_0 (z := 0) (by decide); have q1 := th_ne s_1_1 (z := 1) (by decide); have q2 := th_ne s_1_2 (z := 2) (by decide); have q3 := th_ne s_1_3 (z := 3) (by decide); have q4 := th_ne s_1_4 (z := 4) (by decide); have q5 := th_ne s_1_5 (z := 5) (by decide); have q6 := th_ne s_1_6 (z := 6) (by decide); omega) (by decide) ?_
                have e7 : z = 7 := by
                  obtain ⟨n, hn, rfl⟩ := th_03 h0 (n := 7) (by decide) h7
                  match n, hn with
                  | 0, _ => exact absurd rfl s_1_0
                  | 1, _ => exact absurd rfl s_1_1
                  | 2, _ => exact absurd rfl s_1_2
                  | 3, _ => exact absurd rfl s_1_3
                  | 4, _ => exact absurd rfl s_1_4
                  | 5, _ => exact absurd rfl s_1_5
                  | 6, _ => exact absurd rfl s_1_6
                  | 7, _ => rfl
                refine pm_aload_n dX4_tell_82 rfl rfl ?_
                refine pm_get (fn_RX4_47 _) dX4_tell_83 hw rfl ?_
                refine pm_if_eq (tgt := 93) dX4_tell_86 (by decide) (fun c_86 => ?_) (fun c_86 => ?_)
                · refine pm_iconst (v := 0) dX4_tell_93 (by decide) ?_
                  refine pm_iret dX4_tell_94 rfl rfl rfl ?_
                  refine th_r ?_ hQ
                  simp [th_abt, e7, c_86]
                · refine pm_iconst (v := 1) dX4_tell_89 (by decide) ?_
                  refine pm_goto (tgt := 94) dX4_tell_90 (by decide) ?_
                  refine pm_iret dX4_tell_94 rfl rfl rfl ?_
                  refine th_r ?_ hQ
                  simp [th_abt, e7, c_86]

set_option maxHeartbeats 600000 in
set_option maxRecDepth 100000 in
theorem c_X11_about {l : Launch} {G : pm_G} {ad : Nat → Nat → Nat} {S : Nat → Nat} {A : Nat → Nat → Int32} {X : Nat → Int32} {Y : Nat → Nat → Int32} {F : Nat → Int64} {Hd Cs : Nat → Option Nat} {m : List pm_A} {Q : pm_T} {x z : Int32} (hI : th_I S A) (hQ : Q ad (some (.int (th_aboutA S A x z))) (th_cw ad S A X Y F Hd Cs m)) : pm_C l G m_X11_about [.ref (ad 0 0), .int x, .int z] ad (th_cw ad S A X Y F Hd Cs m) Q := by
  have h8 : S 11 ≤ 8 := hI.2.2.2.2.1.1
  refine pm_met (by decide) (Nat.le_of_ble_eq_true rfl) ?_
  refine pm_aload_n dX11_about_0 rfl rfl ?_
  refine pm_iload_n dX11_about_1 rfl rfl ?_
  refine pm_callV (M2 := m_X11_nutOf) (As := [_]) ok_X11_nutOf (ci := 11) rfl kw_545 kw_547 kw_5 dX11_about_2 rfl rfl rfl (Nat.le_of_ble_eq_true rfl) ⟨⟨Nat.le_of_ble_eq_true rfl, Nat.le_of_ble_eq_true rfl⟩, Nat.le_of_ble_eq_true rfl, Nat.le_of_ble_eq_true rfl⟩ ?_
  refine c_X11_nutOf h8 (fun i hi e => ?_) (fun hn => ?_)
  · subst e
    obtain ⟨⟨kd, hkd, ekd⟩, ⟨sc, hsc, esc⟩, -⟩ := hI.2.2.2.2.1.2.1 i hi
    have hw : pm_get? (th_cw ad S A X Y F Hd Cs m) 2 i = some (.inr (pm_kc (th_n (A 6 i)), th_nf ad A Y i)) := th_nt_get hi
    rw [ekd, th_n_nI (by omega)] at hw
    refine pm_astore_n (lv2 := [(3, _), (0, _), (1, _), (2, _)]) dX11_about_5 rfl (Nat.le_of_ble_eq_true rfl) rfl ?_
    refine pm_aload_n dX11_about_6 rfl rfl ?_
    refine pm_ifnonnull (tgt := 13) dX11_about_7 (by decide) ?_
    refine pm_iload_n dX11_about_13 rfl rfl ?_
    refine pm_iconst (v := 0) dX11_about_14 (by decide) ?_
    refine pm_bipush (v := 7) dX11_about_15 (by decide) ?_
    refine pm_callS (M2 := m_X11_isOutside) (As := [_, _, _]) ok_X11_isOutside kw_361 kw_362 dX11_about_17 rfl rfl (Nat.le_of_ble_eq_true rfl) ⟨⟨Nat.le_of_ble_eq_true rfl, Nat.le_of_ble_eq_true rfl⟩, Nat.le_of_ble_eq_true rfl, Nat.le_of_ble_eq_true rfl⟩ ?_
    refine c_X11_isOutside (fun u => ?_) (fun u v => ?_)
    · refine pm_if_eq (tgt := 28) dX11_about_20 (by decide) (fun c_20 => absurd c_20 (by decide)) (fun c_20 => ?_)
      refine pm_bipush (v := (-102)) dX11_about_23 (by decide) ?_
      refine pm_goto (tgt := 33) dX11_about_25 (by decide) ?_
      refine pm_iret dX11_about_33 rfl rfl rfl ?_
      refine th_r ?_ hQ
      rw [th_aboutA, if_pos (th_okt hi (by omega))]
      have hn : ∀ n : Nat, n ≤ 7 → ¬ z = nI n := fun n hn q => u (by rw [q]; exact ⟨nI_pos' (by omega), (nI_leI (b := 7) (by omega) (by decide)).mpr hn⟩)
      rw [th_abt, if_neg (show ¬ z = 0 from hn 0 (by decide)), if_neg (show ¬ z = 1 from hn 1 (by decide)), if_neg (show ¬ z = 2 from hn 2 (by decide)), if_neg (show ¬ z = 3 from hn 3 (by decide)), if_neg (show ¬ z = 4 from hn 4 (by decide)), if_neg (show ¬ z = 5 from hn 5 (by decide)), if_neg (show ¬ z = 6 from hn 6 (by decide)), if_neg (show ¬ z = 7 from hn 7 (by decide))]
    · refine pm_if_eq (tgt := 28) dX11_about_20 (by decide) (fun c_20 => ?_) (fun c_20 => absurd (rfl) c_20)
      refine pm_aload_n dX11_about_28 rfl rfl ?_
      refine pm_iload_n dX11_about_29 rfl rfl ?_
      refine cn_RX11_123 (M := m_X11_about) (As := [_]) dX11_about_30 hw rfl (Nat.le_of_ble_eq_true rfl) ⟨⟨Nat.le_of_ble_eq_true rfl, Nat.le_of_ble_eq_true rfl⟩, Nat.le_of_ble_eq_true rfl, Nat.le_of_ble_eq_true rfl⟩ ?_
      have h3 := hI.2.1.1
      refine c_X4_tell hkd ekd esc (by omega) u v hw (th_sc_get hsc) ?_
      refine pm_iret dX11_about_33 rfl rfl rfl ?_
      refine th_r ?_ hQ
      rw [th_aboutA, if_pos (th_okt hi (by omega)), th_n_nI (by omega)]
  · refine pm_nstore_n (lv2 := [(3, _), (0, _), (1, _), (2, _)]) dX11_about_5 rfl (Nat.le_of_ble_eq_true rfl) rfl ?_
    refine pm_nload_n dX11_about_6 rfl rfl ?_
    refine pm_ifnonnullN dX11_about_7 ?_
    refine pm_bipush (v := (-101)) dX11_about_10 (by decide) ?_
    refine pm_iret dX11_about_12 rfl rfl rfl ?_
    refine th_r ?_ hQ
    rw [th_aboutA, if_neg (th_okf hn (by omega))]

