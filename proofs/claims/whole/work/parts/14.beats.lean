theorem th_g2_set {ad : Nat → Nat → Nat} {S : Nat → Nat} {A A' Y Y' : Nat → Nat → Int32} {i0 kd : Nat} {L : List Value} (hi : i0 < S 11) (hk : th_n (A' 6 i0) = kd) (hL : th_nf ad A' Y' i0 = L) (ho : ∀ i, i ≠ i0 → A' 6 i = A 6 i ∧ th_nf ad A' Y' i = th_nf ad A Y i) : va_up (th_g2 ad S A Y) i0 (some (.inr (pm_kc kd, L))) = th_g2 ad S A' Y' := by
  funext i
  by_cases e : i = i0
  · subst e
    rw [th_nt_get hi, hk, hL]
    exact if_pos rfl
  · have h1 : va_up (th_g2 ad S A Y) i0 (some (.inr (pm_kc kd, L))) i = th_g2 ad S A Y i := if_neg e
    rw [h1]
    unfold th_g2
    rw [(ho i e).1, (ho i e).2]
theorem th_q2 {Q : pm_T} {ad : Nat → Nat → Nat} {v : Option Value} {a0 a3 a4 a5 a6 a7 a8 : List pm_A} {a1 f f' : Nat → Option pm_A} (h : f = f') (hQ : Q ad v (a0, a1, f', a3, a4, a5, a6, a7, a8)) : Q ad v (a0, a1, f, a3, a4, a5, a6, a7, a8) := h ▸ hQ
def th_bt1 (A : Nat → Nat → Int32) (how a b : Nat) : Nat → Nat → Int32 := va_up A 11 (upd (A 11) a (th_meet A how (th_n (A 7 a)) (th_n (A 7 b)) (A 11 a) (A 11 b)))
def th_beat (A : Nat → Nat → Int32) (how a b : Nat) : Nat → Nat → Int32 := va_up (th_bt1 A how a b) 13 (upd (A 13) b 1)
theorem th_nk {S : Nat → Nat} {A : Nat → Nat → Int32} (hI : th_I S A) {i : Nat} (hi : i < S 11) : th_N S A i := hI.2.2.2.2.1.2.1 i hi
set_option maxHeartbeats 600000 in
set_option maxRecDepth 100000 in
theorem c_X12_beat {l : Launch} {G : pm_G} {ad : Nat → Nat → Nat} {a0 a3 a4 a5 a6 a7 : List pm_A} {a1 a2 : Nat → Option pm_A} {S : Nat → Nat} {A : Nat → Nat → Int32} {s : Nat → Int32} {B : Nat → Nat → Int32} {hs : Int64} {Q : pm_T} {a b : Nat} (hI : th_I S A) (ha : a < S 11) (hb : b < S 11) (hQ : Q ad none (a0, a1, a2, a3, a4, a5, a6, a7, th_mp ad S (th_beat A (S 6) a b) s B hs)) : pm_C l G m_X12_beat [.ref (ad 8 0), .int (nI a), .int (nI b)] ad (a0, a1, a2, a3, a4, a5, a6, a7, th_mp ad S A s B hs) Q := by
  have h8 := hI.2.2.2.2.1.1
  have h3 := hI.2.1.1
  obtain ⟨-, ⟨sa, hsa, ea⟩, -⟩ := th_nk hI ha
  obtain ⟨-, ⟨sb, hsb, eb⟩, -⟩ := th_nk hI hb
  refine pm_met (by decide) (Nat.le_of_ble_eq_true rfl) ?_
  refine pm_aload_n dX12_beat_0 rfl rfl ?_
  refine pm_get fl_RX12_40_12 dX12_beat_1 rfl rfl ?_
  refine pm_iload_n dX12_beat_4 rfl rfl ?_
  refine pm_aload_n dX12_beat_5 rfl rfl ?_
  refine pm_aload_n dX12_beat_6 rfl rfl ?_
  refine pm_get fl_RX12_28_12 dX12_beat_7 rfl rfl ?_
  refine pm_iload_n dX12_beat_10 rfl rfl ?_
  refine pm_iald dX12_beat_11 rfl (th_in (by omega) (by decide)) ?_
  rw [th_cl (by omega), ea]
  refine pm_aload_n dX12_beat_12 rfl rfl ?_
  refine pm_get fl_RX12_28_12 dX12_beat_13 rfl rfl ?_
  refine pm_iload_n dX12_beat_16 rfl rfl ?_
  refine pm_iald dX12_beat_17 rfl (th_in (by omega) (by decide)) ?_
  rw [th_cl (by omega), eb]
  refine pm_aload_n dX12_beat_18 rfl rfl ?_
  refine pm_get fl_RX12_40_12 dX12_beat_19 rfl rfl ?_
  refine pm_iload_n dX12_beat_22 rfl rfl ?_
  refine pm_iald dX12_beat_23 rfl (th_in (by omega) (by decide)) ?_
  rw [th_cl (by omega)]
  refine pm_aload_n dX12_beat_24 rfl rfl ?_
  refine pm_get fl_RX12_40_12 dX12_beat_25 rfl rfl ?_
  refine pm_iload_n dX12_beat_28 rfl rfl ?_
  refine pm_iald dX12_beat_29 rfl (th_in (by omega) (by decide)) ?_
  rw [th_cl (by omega)]
  refine pm_callV (M2 := m_X12_meet) (As := [_, _, _, _]) ok_X12_meet (ci := 12) rfl kw_1182 kw_1184 kw_29 dX12_beat_30 rfl rfl rfl (Nat.le_of_ble_eq_true rfl) ⟨⟨Nat.le_of_ble_eq_true rfl, Nat.le_of_ble_eq_true rfl⟩, Nat.le_of_ble_eq_true rfl, Nat.le_of_ble_eq_true rfl⟩ ?_
  refine c_X12_meet hI.2.1 hsa hsb hI.2.2.2.1 ?_
  refine pm_iast (w2 := (_, _, _, _, _, _, _, _, [_, _, _, _, _, _, _, _, _, _, _, _, _, _, _, _, _, _, _, _, _, _, _, _])) dX12_beat_33 rfl (th_in (by omega) (by decide)) rfl ?_
  rw [th_cl (by omega)]
  refine pm_aload_n dX12_beat_34 rfl rfl ?_
  refine pm_get fl_RX12_46_12 dX12_beat_35 rfl rfl ?_
  refine pm_iload_n dX12_beat_38 rfl rfl ?_
  refine pm_iconst (v := 1) dX12_beat_39 (by decide) ?_
  refine pm_zast (w2 := (_, _, _, _, _, _, _, _, [_, _, _, _, _, _, _, _, _, _, _, _, _, _, _, _, _, _, _, _, _, _, _, _])) dX12_beat_40 rfl (th_in (by omega) (by decide)) rfl ?_
  rw [th_cl (by omega)]
  refine pm_vret dX12_beat_41 rfl rfl rfl ?_
  have e : th_n (A 7 a) = sa := by rw [ea]; exact th_n_nI (by omega)
  have e2 : th_n (A 7 b) = sb := by rw [eb]; exact th_n_nI (by omega)
  unfold th_beat th_bt1 at hQ
  rw [e, e2] at hQ
  exact hQ

def th_pair (S : Nat → Nat) (x y : Int32) : Prop := (th_ok x (S 11) ∧ th_ok y (S 11)) ∧ ¬ x = y
abbrev th_pr (S : Nat → Nat) (x y : Int32) : Prop := (th_ok x (S 11) ∧ th_ok y (S 11)) ∧ ¬ x = y
theorem th_prt {S : Nat → Nat} {i j : Nat} (h8 : S 11 ≤ 8) (hi : i < S 11) (hj : j < S 11) (hne : i ≠ j) : th_pr S (nI i) (nI j) := ⟨⟨th_okt hi (by omega), th_okt hj (by omega)⟩, fun e => hne ((nI_eq (by omega) (by omega)).mp e)⟩
theorem th_prf {S : Nat → Nat} {x y : Int32} (h8 : S 11 ≤ 8) (h : ¬ (th_is x (S 11) ∧ th_is y (S 11) ∧ x ≠ y)) : ¬ th_pr S x y := fun z => h ⟨(th_is_iff (by omega)).mp z.1.1, (th_is_iff (by omega)).mp z.1.2, z.2⟩
def th_beatsA (S : Nat → Nat) (A : Nat → Nat → Int32) (x y : Int32) : Int32 := if th_pr S x y then (if A 13 (th_n x) = 0 ∧ A 13 (th_n y) = 0 then th_meet A (S 6) (th_n (A 7 (th_n x))) (th_n (A 7 (th_n y))) (A 11 (th_n x)) (A 11 (th_n y)) else -103) else -101
def th_beatsT (S : Nat → Nat) (A : Nat → Nat → Int32) (x y : Int32) : Nat → Nat → Int32 := if th_pr S x y then (if A 13 (th_n x) = 0 ∧ A 13 (th_n y) = 0 then th_beat A (S 6) (th_n x) (th_n y) else A) else A
set_option maxHeartbeats 600000 in
set_option maxRecDepth 100000 in
theorem c_X12_beats {l : Launch} {G : pm_G} {ad : Nat → Nat → Nat} {a0 a3 a4 a5 a6 a7 : List pm_A} {a1 a2 : Nat → Option pm_A} {S : Nat → Nat} {A : Nat → Nat → Int32} {s : Nat → Int32} {B : Nat → Nat → Int32} {hs : Int64} {Q : pm_T} {x y : Int32} (hI : th_I S A) (hQ : Q ad (some (.int (th_beatsA S A x y))) (a0, a1, a2, a3, a4, a5, a6, a7, th_mp ad S (th_beatsT S A x y) s B hs)) : pm_C l G m_X12_beats [.ref (ad 8 0), .int x, .int y] ad (a0, a1, a2, a3, a4, a5, a6, a7, th_mp ad S A s B hs) Q := by
  have h8 := hI.2.2.2.2.1.1
  refine pm_met (by decide) (Nat.le_of_ble_eq_true rfl) ?_
  refine pm_aload_n dX12_beats_0 rfl rfl ?_
  refine pm_iload_n dX12_beats_1 rfl rfl ?_
  refine pm_iload_n dX12_beats_2 rfl rfl ?_
  refine pm_callV (M2 := m_X12_isPair) (As := [_, _]) ok_X12_isPair (ci := 12) rfl kw_1174 kw_1176 kw_27 dX12_beats_3 rfl rfl rfl (Nat.le_of_ble_eq_true rfl) ⟨⟨Nat.le_of_ble_eq_true rfl, Nat.le_of_ble_eq_true rfl⟩, Nat.le_of_ble_eq_true rfl, Nat.le_of_ble_eq_true rfl⟩ ?_
  refine c_X12_isPair h8 (fun i j hi hj hne ei ej => ?_) (fun hn => ?_)
  · subst ei
    subst ej
    rw [th_beatsA, th_beatsT, if_pos (th_prt h8 hi hj hne), if_pos (th_prt h8 hi hj hne), th_n_nI (show i < 2 ^ 31 by omega), th_n_nI (show j < 2 ^ 31 by omega)] at hQ
    refine pm_if_ne (tgt := 12) dX12_beats_6 (by decide) (fun c_6 => ?_) (fun c_6 => absurd c_6 (by decide))
    refine pm_aload_n dX12_beats_12 rfl rfl ?_
    refine pm_get fl_RX12_46_12 dX12_beats_13 rfl rfl ?_
    refine pm_iload_n dX12_beats_16 rfl rfl ?_
    refine pm_zald dX12_beats_17 rfl (th_in (by omega) (by decide)) ?_
    rw [th_cl (by omega)]
    refine pm_if_ne (tgt := 30) dX12_beats_18 (by decide) (fun c_18 => ?_) (fun c_18 => ?_)
    · refine pm_bipush (v := (-103)) dX12_beats_30 (by decide) ?_
      refine pm_iret dX12_beats_32 rfl rfl rfl ?_
      rw [if_neg (fun z => c_18 z.1), if_neg (fun z => c_18 z.1)] at hQ
      exact hQ
    · refine pm_aload_n dX12_beats_21 rfl rfl ?_
      refine pm_get fl_RX12_46_12 dX12_beats_22 rfl rfl ?_
      refine pm_iload_n dX12_beats_25 rfl rfl ?_
      refine pm_zald dX12_beats_26 rfl (th_in (by omega) (by decide)) ?_
      rw [th_cl (by omega)]
      refine pm_if_eq (tgt := 33) dX12_beats_27 (by decide) (fun c_27 => ?_) (fun c_27 => ?_)
      · refine pm_aload_n dX12_beats_33 rfl rfl ?_
        refine pm_iload_n dX12_beats_34 rfl rfl ?_
        refine pm_iload_n dX12_beats_35 rfl rfl ?_
        refine pm_callV (M2 := m_X12_beat) (As := [_, _]) ok_X12_beat (ci := 12) rfl kw_1178 kw_1180 kw_28 dX12_beats_36 rfl rfl rfl (Nat.le_of_ble_eq_true rfl) ⟨⟨Nat.le_of_ble_eq_true rfl, Nat.le_of_ble_eq_true rfl⟩, Nat.le_of_ble_eq_true rfl, Nat.le_of_ble_eq_true rfl⟩ ?_
        rw [if_pos ⟨c_18, c_27⟩, if_pos ⟨c_18, c_27⟩] at hQ
        refine c_X12_beat hI hi hj ?_
        refine pm_aload_n dX12_beats_39 rfl rfl ?_
        refine pm_get fl_RX12_40_12 dX12_beats_40 rfl rfl ?_
        refine pm_iload_n dX12_beats_43 rfl rfl ?_
        refine pm_iald dX12_beats_44 rfl (th_in (by omega) (by decide)) ?_
        refine pm_iret dX12_beats_45 rfl rfl rfl ?_
        refine th_r ?_ hQ
        rw [th_cl (by omega)]
        exact (if_pos rfl).symm
      · refine pm_bipush (v := (-103)) dX12_beats_30 (by decide) ?_
        refine pm_iret dX12_beats_32 rfl rfl rfl ?_
        rw [if_neg (fun z => c_27 z.2), if_neg (fun z => c_27 z.2)] at hQ
        exact hQ
  · rw [th_beatsA, th_beatsT, if_neg (th_prf h8 hn), if_neg (th_prf h8 hn)] at hQ
    refine pm_if_ne (tgt := 12) dX12_beats_6 (by decide) (fun c_6 => absurd (rfl) c_6) (fun c_6 => ?_)
    refine pm_bipush (v := (-101)) dX12_beats_9 (by decide) ?_
    refine pm_iret dX12_beats_11 rfl rfl rfl ?_
    exact hQ

set_option maxHeartbeats 600000 in
set_option maxRecDepth 100000 in
theorem c_X4_breaks {l : Launch} {G : pm_G} {ad : Nat → Nat → Nat} {S : Nat → Nat} {A : Nat → Nat → Int32} {X : Nat → Int32} {Y : Nat → Nat → Int32} {F : Nat → Int64} {Hd Cs : Nat → Option Nat} {m : List pm_A} {Q : pm_T} {a b ka kb : Nat} (hI : th_I S A) (ha : a < S 11) (hb : b < S 11) (hne : a ≠ b) (ka4 : A 6 a = nI ka) (hka : ka ≤ 4) (kb4 : A 6 b = nI kb) (hkb : kb ≤ 4) (hQ : Q ad (some (.int (th_meet A (S 6) (th_n (A 7 a)) (th_n (A 7 b)) (A 11 a) (A 11 b)))) (th_cw ad S (th_beat A (S 6) a b) X Y F Hd Cs m)) : pm_C l G m_X4_breaks [.ref (ad 2 a), .ref (ad 2 b), .int (nI (S 6))] ad (th_cw ad S A X Y F Hd Cs m) Q := by
  have h8 := hI.2.2.2.2.1.1
  have h3 := hI.2.1.1
  obtain ⟨-, ⟨sa, hsa, ea⟩, -⟩ := th_nk hI ha
  obtain ⟨-, ⟨sb, hsb, eb⟩, -⟩ := th_nk hI hb
  have hwa : pm_get? (th_cw ad S A X Y F Hd Cs m) 2 a = some (.inr (pm_kc (th_n (A 6 a)), th_nf ad A Y a)) := th_nt_get ha
  rw [ka4, th_n_nI (by omega)] at hwa
  have hwb : pm_get? (th_cw ad S A X Y F Hd Cs m) 2 b = some (.inr (pm_kc (th_n (A 6 b)), th_nf ad A Y b)) := th_nt_get hb
  rw [kb4, th_n_nI (by omega)] at hwb
  refine pm_met (by decide) (Nat.le_of_ble_eq_true rfl) ?_
  refine pm_aload_n dX4_breaks_0 rfl rfl ?_
  refine pm_aload_n dX4_breaks_1 rfl rfl ?_
  refine pm_get (fn_RX4_15 _) dX4_breaks_2 hwa rfl ?_
  refine pm_aload_n dX4_breaks_5 rfl rfl ?_
  refine pm_get (fn_RX4_15 _) dX4_breaks_6 hwb rfl ?_
  refine pm_aload_n dX4_breaks_9 rfl rfl ?_
  refine pm_get (fn_RX4_28 _) dX4_breaks_10 hwa rfl ?_
  refine pm_aload_n dX4_breaks_13 rfl rfl ?_
  refine pm_get (fn_RX4_28 _) dX4_breaks_14 hwb rfl ?_
  refine pm_iload_n dX4_breaks_17 rfl rfl ?_
  rw [ea, eb, th_n_nI (by omega), th_n_nI (by omega)]
  refine pm_callV (M2 := m_X10_countOver) (As := [_, _, _, _]) ok_X10_countOver (ci := 10) rfl kw_612 kw_613 kw_614 dX4_breaks_18 (show pm_get? _ 1 sa = some (.inr (10, th_sf A sa)) from th_sc_get hsa) rfl rfl (Nat.le_of_ble_eq_true rfl) ⟨⟨Nat.le_of_ble_eq_true rfl, Nat.le_of_ble_eq_true rfl⟩, Nat.le_of_ble_eq_true rfl, Nat.le_of_ble_eq_true rfl⟩ ?_
  refine c_X10_countOver hI.2.1 hsa hsb hI.2.2.2.1 (th_sc_get hsa) (th_sc_get hsb) ?_
  refine pm_put (w2 := (_, _, _, _, _, _, _, _, _)) (fn_RX4_28 _) (fpn_5 _) dX4_breaks_21 hwa rfl rfl (Nat.le_of_ble_eq_true rfl) rfl ?_
  refine pm_aload_n dX4_breaks_24 rfl rfl ?_
  refine pm_iconst (v := 1) dX4_breaks_25 (by decide) ?_
  refine pm_put (w2 := (_, _, _, _, _, _, _, _, _)) (fn_RX4_47 _) (fpn_7 _) dX4_breaks_26 (show pm_get? _ 2 b = _ from (if_neg (fun e => hne e.symm)).trans hwb) rfl rfl (Nat.le_of_ble_eq_true rfl) rfl ?_
  refine pm_aload_n dX4_breaks_29 rfl rfl ?_
  refine pm_get (fn_RX4_28 _) dX4_breaks_30 (show pm_get? _ 2 a = _ from (if_neg hne).trans (if_pos rfl)) rfl ?_
  refine pm_iret dX4_breaks_33 rfl rfl rfl ?_
  have e1 : th_n (A 7 a) = sa := by rw [ea]; exact th_n_nI (by omega)
  have e2 : th_n (A 7 b) = sb := by rw [eb]; exact th_n_nI (by omega)
  rw [e1, e2] at hQ
  refine th_q2 ?_ hQ
  have g1 := th_g2_set (ad := ad) (S := S) (A := A) (A' := th_bt1 A (S 6) a b) (Y := Y) (Y' := Y) (kd := ka) (L := (th_nf ad A Y a).set 5 (.int (th_meet A (S 6) sa sb (A 11 a) (A 11 b)))) ha (by show th_n (A 6 a) = ka; rw [ka4]; exact th_n_nI (by omega)) (by simp [th_nf, th_bt1, va_up, upd, e1, e2]) (fun i hi => ⟨rfl, by simp [th_nf, th_bt1, va_up, upd, hi]⟩)
  have g2 := th_g2_set (ad := ad) (S := S) (A := th_bt1 A (S 6) a b) (A' := th_beat A (S 6) a b) (Y := Y) (Y' := Y) (kd := kb) (L := (th_nf ad A Y b).set 7 (.int 1)) hb (by show th_n (A 6 b) = kb; rw [kb4]; exact th_n_nI (by omega)) (by simp [th_nf, th_beat, th_bt1, va_up, upd, hne.symm]) (fun i hi => ⟨rfl, by simp [th_nf, th_beat, th_bt1, va_up, upd, hi]⟩)
  exact (congrArg (fun f => va_up f b (some (.inr (pm_kc kb, (th_nf ad A Y b).set 7 (.int 1))))) g1).trans g2

theorem th_adi {G : pm_G} {ad : Nat → Nat → Nat} {w : pm_V} {H : Heap} (h : pm_R G ad w H) {g k g2 k2 : Nat} {c c2 : pm_A} (h1 : pm_get? w g k = some c) (h2 : pm_get? w g2 k2 = some c2) (e : ad g k = ad g2 k2) : g = g2 ∧ k = k2 := h.2 _ _ _ _ _ _ h1 h2 e
/-- addresses of two places that hold cells differ: told to the walk -/
theorem pm_inj {l : Launch} {G : pm_G} {M : pm_M} {ad : Nat → Nat → Nat} {pc : Nat} {lv : List (Nat × Value)} {st : List Value} {w : pm_V} {cs ss : Nat} {Q : pm_T} {g k k2 : Nat} {c c2 : pm_A} (h1 : pm_get? w g k = some c) (h2 : pm_get? w g k2 = some c2) (kk : (ad g k = ad g k2 ↔ k = k2) → pm_W l G M ad pc lv st w cs ss Q) : pm_W l G M ad pc lv st w cs ss Q := fun p e s m args below meth c X H locs ls hR hS hl => kk ⟨fun z => (hR.2 _ _ _ _ _ _ h1 h2 z).2, fun z => by rw [z]⟩ p e s m args below meth c X H locs ls hR hS hl
set_option maxHeartbeats 600000 in
set_option maxRecDepth 100000 in
theorem c_X11_beats {l : Launch} {G : pm_G} {ad : Nat → Nat → Nat} {S : Nat → Nat} {A : Nat → Nat → Int32} {X : Nat → Int32} {Y : Nat → Nat → Int32} {F : Nat → Int64} {Hd Cs : Nat → Option Nat} {m : List pm_A} {Q : pm_T} {x y : Int32} (hI : th_I S A) (hQ : Q ad (some (.int (th_beatsA S A x y))) (th_cw ad S (th_beatsT S A x y) X Y F Hd Cs m)) : pm_C l G m_X11_beats [.ref (ad 0 0), .int x, .int y] ad (th_cw ad S A X Y F Hd Cs m) Q := by
  have h8 := hI.2.2.2.2.1.1
  refine pm_met (by decide) (Nat.le_of_ble_eq_true rfl) ?_
  refine pm_aload_n dX11_beats_0 rfl rfl ?_
  refine pm_iload_n dX11_beats_1 rfl rfl ?_
  refine pm_callV (M2 := m_X11_nutOf) (As := [_]) ok_X11_nutOf (ci := 11) rfl kw_545 kw_547 kw_5 dX11_beats_2 rfl rfl rfl (Nat.le_of_ble_eq_true rfl) ⟨⟨Nat.le_of_ble_eq_true rfl, Nat.le_of_ble_eq_true rfl⟩, Nat.le_of_ble_eq_true rfl, Nat.le_of_ble_eq_true rfl⟩ ?_
  refine c_X11_nutOf h8 (fun i hi e => ?_) (fun hn => ?_)
  · subst e
    obtain ⟨⟨ki, hki, eki⟩, -⟩ := th_nk hI  hi
    have hwi : pm_get? (th_cw ad S A X Y F Hd Cs m) 2 i = some (.inr (pm_kc (th_n (A 6 i)), th_nf ad A Y i)) := th_nt_get  hi
    rw [eki, th_n_nI (by omega)] at hwi
    refine pm_astore_n (lv2 := [(3, _), (0, _), (1, _), (2, _)]) dX11_beats_5 rfl (Nat.le_of_ble_eq_true rfl) rfl ?_
    refine pm_aload_n dX11_beats_6 rfl rfl ?_
    refine pm_iload_n dX11_beats_7 rfl rfl ?_
    refine pm_callV (M2 := m_X11_nutOf) (As := [_]) ok_X11_nutOf (ci := 11) rfl kw_545 kw_547 kw_5 dX11_beats_8 rfl rfl rfl (Nat.le_of_ble_eq_true rfl) ⟨⟨Nat.le_of_ble_eq_true rfl, Nat.le_of_ble_eq_true rfl⟩, Nat.le_of_ble_eq_true rfl, Nat.le_of_ble_eq_true rfl⟩ ?_
    refine c_X11_nutOf h8 (fun j hj e => ?_) (fun hn2 => ?_)
    · subst e
      obtain ⟨⟨kj, hkj, ekj⟩, -⟩ := th_nk hI hj
      have hwj : pm_get? (th_cw ad S A X Y F Hd Cs m) 2 j = some (.inr (pm_kc (th_n (A 6 j)), th_nf ad A Y j)) := th_nt_get hj
      rw [ekj, th_n_nI (by omega)] at hwj
      refine pm_astore (lv2 := [(4, _), (3, _), (0, _), (1, _), (2, _)]) dX11_beats_11 (Nat.le_of_ble_eq_true rfl) rfl ?_
      refine pm_aload_n dX11_beats_13 rfl rfl ?_
      refine pm_ifnull dX11_beats_14 ?_
      refine pm_aload dX11_beats_17 rfl ?_
      refine pm_ifnull dX11_beats_19 ?_
      refine pm_aload_n dX11_beats_22 rfl rfl ?_
      refine pm_aload dX11_beats_23 rfl ?_
      refine pm_inj hwi hwj (fun hadd => ?_)
      refine pm_acmp_ne (tgt := 31) dX11_beats_25 (by decide) (fun c_25 => ?_) (fun c_25 => ?_)
      · have hne : i ≠ j := fun e => c_25 (by rw [e])
        rw [th_beatsA, th_beatsT, if_pos (th_prt h8 hi hj hne), if_pos (th_prt h8 hi hj hne), th_n_nI (show i < 2 ^ 31 by omega), th_n_nI (show j < 2 ^ 31 by omega)] at hQ
        refine pm_aload_n dX11_beats_31 rfl rfl ?_
        refine pm_get (fn_RX11_127 _) dX11_beats_32 hwi rfl ?_
        refine pm_if_ne (tgt := 46) dX11_beats_35 (by decide) (fun c_35 => ?_) (fun c_35 => ?_)
        · refine pm_bipush (v := (-103)) dX11_beats_46 (by decide) ?_
          refine pm_iret dX11_beats_48 rfl rfl rfl ?_
          rw [if_neg (fun z => c_35 z.1), if_neg (fun z => c_35 z.1)] at hQ
          exact hQ
        · refine pm_aload dX11_beats_38 rfl ?_
          refine pm_get (fn_RX11_127 _) dX11_beats_40 hwj rfl ?_
          refine pm_if_eq (tgt := 49) dX11_beats_43 (by decide) (fun c_43 => ?_) (fun c_43 => ?_)
          · refine pm_aload_n dX11_beats_49 rfl rfl ?_
            refine pm_aload dX11_beats_50 rfl ?_
            refine pm_aload_n dX11_beats_52 rfl rfl ?_
            refine pm_get fl_RX11_60_11 dX11_beats_53 rfl rfl ?_
            refine cn_RX11_131 (M := m_X11_beats) (As := [_, _]) dX11_beats_56 hwi rfl (Nat.le_of_ble_eq_true rfl) ⟨⟨Nat.le_of_ble_eq_true rfl, Nat.le_of_ble_eq_true rfl⟩, Nat.le_of_ble_eq_true rfl, Nat.le_of_ble_eq_true rfl⟩ ?_
            rw [if_pos ⟨c_35, c_43⟩, if_pos ⟨c_35, c_43⟩] at hQ
            refine c_X4_breaks hI hi hj hne eki hki ekj hkj ?_
            refine pm_iret dX11_beats_59 rfl rfl rfl ?_
            exact hQ
          · refine pm_bipush (v := (-103)) dX11_beats_46 (by decide) ?_
            refine pm_iret dX11_beats_48 rfl rfl rfl ?_
            rw [if_neg (fun z => c_43 z.2), if_neg (fun z => c_43 z.2)] at hQ
            exact hQ
      · refine pm_bipush (v := (-101)) dX11_beats_28 (by decide) ?_
        refine pm_iret dX11_beats_30 rfl rfl rfl ?_
        rw [th_beatsA, th_beatsT, if_neg (fun z => z.2 (by rw [hadd.mp c_25])), if_neg (fun z => z.2 (by rw [hadd.mp c_25]))] at hQ
        exact hQ
    · refine pm_nstore (lv2 := [(4, _), (3, _), (0, _), (1, _), (2, _)]) dX11_beats_11 (Nat.le_of_ble_eq_true rfl) rfl ?_
      refine pm_aload_n dX11_beats_13 rfl rfl ?_
      refine pm_ifnull dX11_beats_14 ?_
      refine pm_nload dX11_beats_17 rfl ?_
      refine pm_ifnullN (tgt := 28) dX11_beats_19 (by decide) ?_
      refine pm_bipush (v := (-101)) dX11_beats_28 (by decide) ?_
      refine pm_iret dX11_beats_30 rfl rfl rfl ?_
      rw [th_beatsA, th_beatsT, if_neg (fun z => th_okf hn2 (by omega) z.1.2), if_neg (fun z => th_okf hn2 (by omega) z.1.2)] at hQ
      exact hQ
  · refine pm_nstore_n (lv2 := [(3, _), (0, _), (1, _), (2, _)]) dX11_beats_5 rfl (Nat.le_of_ble_eq_true rfl) rfl ?_
    refine pm_aload_n dX11_beats_6 rfl rfl ?_
    refine pm_iload_n dX11_beats_7 rfl rfl ?_
    refine pm_callV (M2 := m_X11_nutOf) (As := [_]) ok_X11_nutOf (ci := 11) rfl kw_545 kw_547 kw_5 dX11_beats_8 rfl rfl rfl (Nat.le_of_ble_eq_true rfl) ⟨⟨Nat.le_of_ble_eq_true rfl, Nat.le_of_ble_eq_true rfl⟩, Nat.le_of_ble_eq_true rfl, Nat.le_of_ble_eq_true rfl⟩ ?_
    refine c_X11_nutOf h8 (fun j hj e => ?_) (fun hn2 => ?_)
    · subst e
      obtain ⟨⟨kj, hkj, ekj⟩, -⟩ := th_nk hI hj
      have hwj : pm_get? (th_cw ad S A X Y F Hd Cs m) 2 j = some (.inr (pm_kc (th_n (A 6 j)), th_nf ad A Y j)) := th_nt_get hj
      rw [ekj, th_n_nI (by omega)] at hwj
      refine pm_astore (lv2 := [(4, _), (3, _), (0, _), (1, _), (2, _)]) dX11_beats_11 (Nat.le_of_ble_eq_true rfl) rfl ?_
      refine pm_nload_n dX11_beats_13 rfl rfl ?_
      refine pm_ifnullN (tgt := 28) dX11_beats_14 (by decide) ?_
      refine pm_bipush (v := (-101)) dX11_beats_28 (by decide) ?_
      refine pm_iret dX11_beats_30 rfl rfl rfl ?_
      rw [th_beatsA, th_beatsT, if_neg (fun z => th_okf hn (by omega) z.1.1), if_neg (fun z => th_okf hn (by omega) z.1.1)] at hQ
      exact hQ
    · refine pm_nstore (lv2 := [(4, _), (3, _), (0, _), (1, _), (2, _)]) dX11_beats_11 (Nat.le_of_ble_eq_true rfl) rfl ?_
      refine pm_nload_n dX11_beats_13 rfl rfl ?_
      refine pm_ifnullN (tgt := 28) dX11_beats_14 (by decide) ?_
      refine pm_bipush (v := (-101)) dX11_beats_28 (by decide) ?_
      refine pm_iret dX11_beats_30 rfl rfl rfl ?_
      rw [th_beatsA, th_beatsT, if_neg (fun z => th_okf hn (by omega) z.1.1), if_neg (fun z => th_okf hn (by omega) z.1.1)] at hQ
      exact hQ

def th_scalesA (S : Nat → Nat) (A : Nat → Nat → Int32) (x z : Int32) : Int32 := if th_ok x (S 11) then (if 1 ≤ z ∧ z ≤ 199 then (if 5 * z < 4 * A 10 (th_n x) then 2 else if 11 * A 10 (th_n x) < 10 * z then 3 else 0) else -102) else -101
theorem th_sc1 {z w : Nat} (hz : z ≤ 199) (hw : w ≤ 99) : (5 * (nI w - nI z) ≤ nI w ↔ ¬ 5 * nI z < 4 * nI w) := by
  have e1 : (5 * (nI w - nI z)).toInt = 5 * ((w : Int) - z) := by
    rw [Int32.toInt_mul, pk_sub_toInt (by omega) (by omega)]
    show (5 * ((w : Int) - z)).bmod (2 ^ 32) = _
    rw [Int.bmod_eq_of_le (by omega) (by omega)]
  rw [show (5 : Int32) * nI z = nI (5 * z) from pk_mul 5 z, show (4 : Int32) * nI w = nI (4 * w) from pk_mul 4 w, Int32.le_iff_toInt_le, e1, nI_toInt (by omega), nI_ltI (by omega) (by omega)]
  omega
theorem th_sc2 {z w : Nat} (hz : z ≤ 199) (hw : w ≤ 99) : (10 * (nI z - nI w) ≤ nI w ↔ ¬ 11 * nI w < 10 * nI z) := by
  have e1 : (10 * (nI z - nI w)).toInt = 10 * ((z : Int) - w) := by
    rw [Int32.toInt_mul, pk_sub_toInt (by omega) (by omega)]
    show (10 * ((z : Int) - w)).bmod (2 ^ 32) = _
    rw [Int.bmod_eq_of_le (by omega) (by omega)]
  rw [show (10 : Int32) * nI z = nI (10 * z) from pk_mul 10 z, show (11 : Int32) * nI w = nI (11 * w) from pk_mul 11 w, Int32.le_iff_toInt_le, e1, nI_toInt (by omega), nI_ltI (by omega) (by omega)]
  omega
set_option maxHeartbeats 600000 in
set_option maxRecDepth 100000 in
theorem c_X12_scales {l : Launch} {G : pm_G} {ad : Nat → Nat → Nat} {a0 a3 a4 a5 a6 a7 : List pm_A} {a1 a2 : Nat → Option pm_A} {S : Nat → Nat} {A : Nat → Nat → Int32} {s : Nat → Int32} {B : Nat → Nat → Int32} {hs : Int64} {Q : pm_T} {x z : Int32} (hI : th_I S A) (hQ : Q ad (some (.int (th_scalesA S A x z))) (a0, a1, a2, a3, a4, a5, a6, a7, th_mp ad S A s B hs)) : pm_C l G m_X12_scales [.ref (ad 8 0), .int x, .int z] ad (a0, a1, a2, a3, a4, a5, a6, a7, th_mp ad S A s B hs) Q := by
  have h8 := hI.2.2.2.2.1.1
  refine pm_met (by decide) (Nat.le_of_ble_eq_true rfl) ?_
  refine pm_aload_n dX12_scales_0 rfl rfl ?_
  refine pm_iload_n dX12_scales_1 rfl rfl ?_
  refine pm_callV (M2 := m_X12_isNut) (As := [_]) ok_X12_isNut (ci := 12) rfl kw_1154 kw_1156 kw_24 dX12_scales_2 rfl rfl rfl (Nat.le_of_ble_eq_true rfl) ⟨⟨Nat.le_of_ble_eq_true rfl, Nat.le_of_ble_eq_true rfl⟩, Nat.le_of_ble_eq_true rfl, Nat.le_of_ble_eq_true rfl⟩ ?_
  refine c_X12_isNut h8 (fun i hi e => ?_) (fun hn => ?_)
  · subst e
    refine pm_if_ne (tgt := 11) dX12_scales_5 (by decide) (fun c_5 => ?_) (fun c_5 => absurd c_5 (by decide))
    refine pm_iload_n dX12_scales_11 rfl rfl ?_
    refine pm_i2l dX12_scales_12 ?_
    refine pm_lconst (v := 1) dX12_scales_13 (by decide) ?_
    refine pm_ldc2 kw_1210 dX12_scales_14 ?_
    refine pm_callS (M2 := m_X12_in) (As := [_, _, _]) ok_X12_in kw_1115 kw_1116 dX12_scales_17 rfl rfl (Nat.le_of_ble_eq_true rfl) ⟨⟨Nat.le_of_ble_eq_true rfl, Nat.le_of_ble_eq_true rfl⟩, Nat.le_of_ble_eq_true rfl, Nat.le_of_ble_eq_true rfl⟩ ?_
    refine c_X12_in32 (lo := 1) (hi := 199) rfl rfl (fun u v => ?_) (fun u => ?_)
    · refine pm_if_ne (tgt := 26) dX12_scales_20 (by decide) (fun c_20 => ?_) (fun c_20 => absurd c_20 (by decide))
      refine pm_aload_n dX12_scales_26 rfl rfl ?_
      refine pm_get fl_RX12_37_12 dX12_scales_27 rfl rfl ?_
      refine pm_iload_n dX12_scales_30 rfl rfl ?_
      refine pm_iald dX12_scales_31 rfl (th_in (by omega) (by decide)) ?_
      obtain ⟨-, -, -, -, ⟨wt, hw1, hw2, ew⟩, -⟩ := th_nk hI hi
      rw [th_cl (by omega), ew]
      obtain ⟨q, hq, rfl⟩ := th_03 (Int32.le_trans (by decide) u) (n := 199) (by decide) v
      refine pm_istore_n (lv2 := [(3, _), (0, _), (1, _), (2, _)]) dX12_scales_32 rfl (Nat.le_of_ble_eq_true rfl) rfl ?_
      refine pm_iconst (v := 5) dX12_scales_33 (by decide) ?_
      refine pm_iload_n dX12_scales_34 rfl rfl ?_
      refine pm_iload_n dX12_scales_35 rfl rfl ?_
      refine pm_isub dX12_scales_36 ?_
      refine pm_imul dX12_scales_37 ?_
      refine pm_iload_n dX12_scales_38 rfl rfl ?_
      refine pm_icmp_le (tgt := 46) dX12_scales_39 (by decide) (fun c_39 => ?_) (fun c_39 => ?_)
      · refine pm_bipush (v := 10) dX12_scales_46 (by decide) ?_
        refine pm_iload_n dX12_scales_48 rfl rfl ?_
        refine pm_iload_n dX12_scales_49 rfl rfl ?_
        refine pm_isub dX12_scales_50 ?_
        refine pm_imul dX12_scales_51 ?_
        refine pm_iload_n dX12_scales_52 rfl rfl ?_
        refine pm_icmp_le (tgt := 60) dX12_scales_53 (by decide) (fun c_53 => ?_) (fun c_53 => ?_)
        · refine pm_iconst (v := 0) dX12_scales_60 (by decide) ?_
          refine pm_iret dX12_scales_61 rfl rfl rfl ?_
          refine th_r ?_ hQ
          rw [th_scalesA, if_pos (th_okt hi (by omega)), if_pos ⟨u, v⟩, th_n_nI (by omega), ew]
          rw [th_sc1 hq hw2] at c_39
          rw [th_sc2 hq hw2] at c_53
          rw [if_neg c_39, if_neg c_53]
        · refine pm_iconst (v := 3) dX12_scales_56 (by decide) ?_
          refine pm_goto (tgt := 61) dX12_scales_57 (by decide) ?_
          refine pm_iret dX12_scales_61 rfl rfl rfl ?_
          refine th_r ?_ hQ
          rw [th_scalesA, if_pos (th_okt hi (by omega)), if_pos ⟨u, v⟩, th_n_nI (by omega), ew]
          rw [th_sc1 hq hw2] at c_39
          rw [th_sc2 hq hw2, Decidable.not_not] at c_53
          rw [if_neg c_39, if_pos c_53]
      · refine pm_iconst (v := 2) dX12_scales_42 (by decide) ?_
        refine pm_goto (tgt := 61) dX12_scales_43 (by decide) ?_
        refine pm_iret dX12_scales_61 rfl rfl rfl ?_
        refine th_r ?_ hQ
        rw [th_scalesA, if_pos (th_okt hi (by omega)), if_pos ⟨u, v⟩, th_n_nI (by omega), ew]
        rw [th_sc1 hq hw2, Decidable.not_not] at c_39
        rw [if_pos c_39]
    · refine pm_if_ne (tgt := 26) dX12_scales_20 (by decide) (fun c_20 => absurd (rfl) c_20) (fun c_20 => ?_)
      refine pm_bipush (v := (-102)) dX12_scales_23 (by decide) ?_
      refine pm_iret dX12_scales_25 rfl rfl rfl ?_
      refine th_r ?_ hQ
      rw [th_scalesA, if_pos (th_okt hi (by omega)), if_neg u]
  · refine pm_if_ne (tgt := 11) dX12_scales_5 (by decide) (fun c_5 => absurd (rfl) c_5) (fun c_5 => ?_)
    refine pm_bipush (v := (-101)) dX12_scales_8 (by decide) ?_
    refine pm_iret dX12_scales_10 rfl rfl rfl ?_
    refine th_r ?_ hQ
    rw [th_scalesA, if_neg (th_okf hn (by omega))]

set_option maxHeartbeats 600000 in
set_option maxRecDepth 100000 in
theorem c_X11_scales {l : Launch} {G : pm_G} {ad : Nat → Nat → Nat} {S : Nat → Nat} {A : Nat → Nat → Int32} {X : Nat → Int32} {Y : Nat → Nat → Int32} {F : Nat → Int64} {Hd Cs : Nat → Option Nat} {m : List pm_A} {Q : pm_T} {x z : Int32} (hI : th_I S A) (hQ : Q ad (some (.int (th_scalesA S A x z))) (th_cw ad S A X Y F Hd Cs m)) : pm_C l G m_X11_scales [.ref (ad 0 0), .int x, .int z] ad (th_cw ad S A X Y F Hd Cs m) Q := by
  have h8 := hI.2.2.2.2.1.1
  refine pm_met (by decide) (Nat.le_of_ble_eq_true rfl) ?_
  refine pm_aload_n dX11_scales_0 rfl rfl ?_
  refine pm_iload_n dX11_scales_1 rfl rfl ?_
  refine pm_callV (M2 := m_X11_nutOf) (As := [_]) ok_X11_nutOf (ci := 11) rfl kw_545 kw_547 kw_5 dX11_scales_2 rfl rfl rfl (Nat.le_of_ble_eq_true rfl) ⟨⟨Nat.le_of_ble_eq_true rfl, Nat.le_of_ble_eq_true rfl⟩, Nat.le_of_ble_eq_true rfl, Nat.le_of_ble_eq_true rfl⟩ ?_
  refine c_X11_nutOf h8 (fun i hi e => ?_) (fun hn => ?_)
  · subst e
    obtain ⟨⟨ki, hki, eki⟩, -⟩ := th_nk hI  hi
    have hwi : pm_get? (th_cw ad S A X Y F Hd Cs m) 2 i = some (.inr (pm_kc (th_n (A 6 i)), th_nf ad A Y i)) := th_nt_get  hi
    rw [eki, th_n_nI (by omega)] at hwi
    refine pm_astore_n (lv2 := [(3, _), (0, _), (1, _), (2, _)]) dX11_scales_5 rfl (Nat.le_of_ble_eq_true rfl) rfl ?_
    refine pm_aload_n dX11_scales_6 rfl rfl ?_
    refine pm_ifnonnull (tgt := 13) dX11_scales_7 (by decide) ?_
    refine pm_iload_n dX11_scales_13 rfl rfl ?_
    refine pm_iconst (v := 1) dX11_scales_14 (by decide) ?_
    refine pm_sipush (v := 199) dX11_scales_15 (by decide) ?_
    refine pm_callS (M2 := m_X11_isOutside) (As := [_, _, _]) ok_X11_isOutside kw_361 kw_362 dX11_scales_18 rfl rfl (Nat.le_of_ble_eq_true rfl) ⟨⟨Nat.le_of_ble_eq_true rfl, Nat.le_of_ble_eq_true rfl⟩, Nat.le_of_ble_eq_true rfl, Nat.le_of_ble_eq_true rfl⟩ ?_
    refine c_X11_isOutside (fun u => ?_) (fun u v => ?_)
    · refine pm_if_eq (tgt := 27) dX11_scales_21 (by decide) (fun c_21 => absurd c_21 (by decide)) (fun c_21 => ?_)
      refine pm_bipush (v := (-102)) dX11_scales_24 (by decide) ?_
      refine pm_iret dX11_scales_26 rfl rfl rfl ?_
      refine th_r ?_ hQ
      rw [th_scalesA, if_pos (th_okt hi (by omega)), if_neg u]
    · refine pm_if_eq (tgt := 27) dX11_scales_21 (by decide) (fun c_21 => ?_) (fun c_21 => absurd (rfl) c_21)
      refine pm_iconst (v := 5) dX11_scales_27 (by decide) ?_
      refine pm_iload_n dX11_scales_28 rfl rfl ?_
      refine pm_imul dX11_scales_29 ?_
      refine pm_iconst (v := 4) dX11_scales_30 (by decide) ?_
      refine pm_aload_n dX11_scales_31 rfl rfl ?_
      refine pm_get (fn_RX11_152 _) dX11_scales_32 hwi rfl ?_
      refine pm_imul dX11_scales_35 ?_
      refine pm_icmp_ge (tgt := 41) dX11_scales_36 (by decide) (fun c_36 => ?_) (fun c_36 => ?_)
      · refine pm_bipush (v := 10) dX11_scales_41 (by decide) ?_
        refine pm_iload_n dX11_scales_43 rfl rfl ?_
        refine pm_imul dX11_scales_44 ?_
        refine pm_bipush (v := 11) dX11_scales_45 (by decide) ?_
        refine pm_aload_n dX11_scales_47 rfl rfl ?_
        refine pm_get (fn_RX11_152 _) dX11_scales_48 hwi rfl ?_
        refine pm_imul dX11_scales_51 ?_
        refine pm_icmp_le (tgt := 59) dX11_scales_52 (by decide) (fun c_52 => ?_) (fun c_52 => ?_)
        · refine pm_iconst (v := 0) dX11_scales_59 (by decide) ?_
          refine pm_iret dX11_scales_60 rfl rfl rfl ?_
          refine th_r ?_ hQ
          rw [th_scalesA, if_pos (th_okt hi (by omega)), if_pos ⟨u, v⟩, th_n_nI (by omega)]
          rw [if_neg (Int32.not_lt.mpr c_36), if_neg (Int32.not_lt.mpr c_52)]
        · refine pm_iconst (v := 3) dX11_scales_55 (by decide) ?_
          refine pm_goto (tgt := 60) dX11_scales_56 (by decide) ?_
          refine pm_iret dX11_scales_60 rfl rfl rfl ?_
          refine th_r ?_ hQ
          rw [th_scalesA, if_pos (th_okt hi (by omega)), if_pos ⟨u, v⟩, th_n_nI (by omega)]
          rw [if_neg (Int32.not_lt.mpr c_36), if_pos (Int32.not_le.mp c_52)]
      · refine pm_iconst (v := 2) dX11_scales_39 (by decide) ?_
        refine pm_iret dX11_scales_40 rfl rfl rfl ?_
        refine th_r ?_ hQ
        rw [th_scalesA, if_pos (th_okt hi (by omega)), if_pos ⟨u, v⟩, th_n_nI (by omega)]
        rw [if_pos (Int32.not_le.mp c_36)]
  · refine pm_nstore_n (lv2 := [(3, _), (0, _), (1, _), (2, _)]) dX11_scales_5 rfl (Nat.le_of_ble_eq_true rfl) rfl ?_
    refine pm_nload_n dX11_scales_6 rfl rfl ?_
    refine pm_ifnonnullN dX11_scales_7 ?_
    refine pm_bipush (v := (-101)) dX11_scales_10 (by decide) ?_
    refine pm_iret dX11_scales_12 rfl rfl rfl ?_
    refine th_r ?_ hQ
    rw [th_scalesA, if_neg (th_okf hn (by omega))]

