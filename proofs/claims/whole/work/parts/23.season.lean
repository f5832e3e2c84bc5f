theorem th_wo_bd {t : Int32} {a b : Nat} (ha : a ≤ 999) (hb : b ≤ 999) (ht : (∃ v : Nat, v ≤ 99 ∧ t = nI v) ∨ t = -120 ∨ t = -121 ∨ t = -109 ∨ t = -108 ∨ t = -104) : ∃ v : Nat, v ≤ 999 ∧ th_wo t (nI a) (nI b) = nI v := by
  rcases ht with ⟨v, hv, rfl⟩ | rfl | rfl | rfl | rfl | rfl
  · exact ⟨v, by omega, if_neg (nI_pos (by omega))⟩
  · exact ⟨a, ha, rfl⟩
  · exact ⟨b, hb, rfl⟩
  · have e : th_wo (-109) (nI a) (nI b) = (if nI a ≤ nI b then nI b else nI a) := rfl
    rw [e]
    by_cases h : nI a ≤ nI b
    · exact ⟨b, hb, if_pos h⟩
    · exact ⟨a, ha, if_neg h⟩
  · have e : th_wo (-108) (nI a) (nI b) = (if nI b ≤ nI a then nI b else nI a) := rfl
    rw [e]
    by_cases h : nI b ≤ nI a
    · exact ⟨b, hb, if_pos h⟩
    · exact ⟨a, ha, if_neg h⟩
  · have e : th_wo (-104) (nI a) (nI b) = nI b / nI 2 := rfl
    exact ⟨b / 2, by omega, e.trans (pk_div (by omega) (by decide) (by decide))⟩
theorem th_sum_bd {f : Nat → Int32} {a b : Nat} (ha : a ≤ 999) (hb : b ≤ 999) : ∀ n, (∀ k, k < n → (∃ v : Nat, v ≤ 99 ∧ f k = nI v) ∨ f k = -120 ∨ f k = -121 ∨ f k = -109 ∨ f k = -108 ∨ f k = -104) → ∃ v : Nat, v ≤ 999 * n ∧ th_sum f (nI a) (nI b) n = nI v := by
  intro n
  induction n with
  | zero => intro _; exact ⟨0, by omega, rfl⟩
  | succ n ih =>
    intro h
    obtain ⟨v, hv, e⟩ := ih (fun k hk => h k (by omega))
    obtain ⟨w, hw, e2⟩ := th_wo_bd ha hb (h n (by omega))
    refine ⟨v + w, by omega, ?_⟩
    rw [th_sum, e, e2, nI_add]
theorem th_ca_bd {S : Nat → Nat} {A : Nat → Nat → Int32} (hI : th_I2 S A) {j a b : Nat} (hj : j < S 2) (ha : a ≤ 999) (hb : b ≤ 999) : ∃ c : Nat, c ≤ 999 ∧ th_ca A j (nI a) (nI b) = nI c := by
  obtain ⟨n, hn, he, ht⟩ := hI.2 j hj
  have e : th_n (A 3 j) = n := by rw [he]; exact th_n_nI (by omega)
  obtain ⟨v, hv, e2⟩ := th_sum_bd (f := th_tf A j) ha hb n ht
  unfold th_ca
  rw [e, e2]
  by_cases h : nI v < 999
  · rw [if_pos h]
    exact ⟨v, by have := (nI_ltI (b := 999) (by omega) (by decide)).mp h; omega, rfl⟩
  · rw [if_neg h]
    exact ⟨999, by omega, rfl⟩
theorem th_meet_bd {S : Nat → Nat} {A : Nat → Nat → Int32} (hI : th_I2 S A) {i j a b how : Nat} (hi : i < S 2) (hj : j < S 2) (ha : a ≤ 999) (hb : b ≤ 999) : ∃ c : Nat, c ≤ 999 ∧ th_meet A how i j (nI a) (nI b) = nI c := by
  obtain ⟨c, hc, ec⟩ := th_ca_bd hI hi ha hb
  obtain ⟨d, hd, ed⟩ := th_ca_bd hI hj ha hb
  unfold th_meet
  rw [ec, ed]
  by_cases h1 : how < 2
  · rw [if_pos h1]
    by_cases h2 : how = 0
    · rw [if_pos h2]; exact ⟨c, hc, rfl⟩
    · rw [if_neg h2]; exact ⟨d, hd, rfl⟩
  · rw [if_neg h1]
    by_cases h2 : how = 2
    · rw [if_pos h2]
      by_cases h3 : nI d < nI c
      · rw [if_pos h3]; exact ⟨c, hc, rfl⟩
      · rw [if_neg h3]; exact ⟨d, hd, rfl⟩
    · rw [if_neg h2]
      by_cases h3 : nI c < nI d
      · rw [if_pos h3]; exact ⟨c, hc, rfl⟩
      · rw [if_neg h3]; exact ⟨d, hd, rfl⟩
def th_comOK (S : Nat → Nat) (x c t : Int32) : Int32 := if th_ok x (S 2) then (if (0 ≤ c ∧ c ≤ 99) ∧ (0 ≤ t ∧ t ≤ 10) then (if S 34 = 8 then -104 else nI (S 34 + 1)) else -102) else -101
def th_comS (S : Nat → Nat) (x c t : Int32) : Nat → Nat := if th_ok x (S 2) then (if (0 ≤ c ∧ c ≤ 99) ∧ (0 ≤ t ∧ t ≤ 10) then (if S 34 = 8 then S else va_up S 34 (S 34 + 1)) else S) else S
def th_comA (S : Nat → Nat) (A : Nat → Nat → Int32) (x c t : Int32) : Nat → Nat → Int32 := if th_ok x (S 2) then (if (0 ≤ c ∧ c ≤ 99) ∧ (0 ≤ t ∧ t ≤ 10) then (if S 34 = 8 then A else va_up (va_up (va_up A 19 (upd (A 19) (S 34) x)) 20 (upd (A 20) (S 34) c)) 21 (upd (A 21) (S 34) t)) else A) else A
def th_comC (ad : Nat → Nat → Nat) (S : Nat → Nat) (Cs : Nat → Option Nat) (x c t : Int32) : Nat → Option Nat := if th_ok x (S 2) then (if (0 ≤ c ∧ c ≤ 99) ∧ (0 ≤ t ∧ t ≤ 10) then (if S 34 = 8 then Cs else va_up Cs (S 34) (some (ad 1 (th_n x)))) else Cs) else Cs
set_option maxHeartbeats 600000 in
set_option maxRecDepth 100000 in
theorem c_X12_comer {l : Launch} {G : pm_G} {ad : Nat → Nat → Nat} {a0 a3 a4 a5 a6 a7 : List pm_A} {a1 a2 : Nat → Option pm_A} {S : Nat → Nat} {A : Nat → Nat → Int32} {s : Nat → Int32} {B : Nat → Nat → Int32} {hs : Int64} {Q : pm_T} {x c t : Int32} (hI : th_I S A) (hQ : Q ad (some (.int (th_comOK S x c t))) (a0, a1, a2, a3, a4, a5, a6, a7, th_mp ad (th_comS S x c t) (th_comA S A x c t) s B hs)) : pm_C l G m_X12_comer [.ref (ad 8 0), .int x, .int c, .int t] ad (a0, a1, a2, a3, a4, a5, a6, a7, th_mp ad S A s B hs) Q := by
  have h8 := hI.2.2.2.2.1.1
  have h3 := hI.2.1.1
  have h34 := hI.2.2.2.2.2.2.1.1
  refine pm_met (by decide) (Nat.le_of_ble_eq_true rfl) ?_
  refine pm_aload_n dX12_comer_0 rfl rfl ?_
  refine pm_iload_n dX12_comer_1 rfl rfl ?_
  refine pm_callV (M2 := m_X12_isSchool) (As := [_]) ok_X12_isSchool (ci := 12) rfl kw_1126 kw_1128 kw_22 dX12_comer_2 rfl rfl rfl (Nat.le_of_ble_eq_true rfl) ⟨⟨Nat.le_of_ble_eq_true rfl, Nat.le_of_ble_eq_true rfl⟩, Nat.le_of_ble_eq_true rfl, Nat.le_of_ble_eq_true rfl⟩ ?_
  refine c_X12_isSchool h3 (fun j hj e => ?_) (fun hn => ?_)
  · subst e
    rw [th_comOK, th_comS, th_comA, if_pos (th_okt hj (by omega)), if_pos (th_okt hj (by omega)), if_pos (th_okt hj (by omega))] at hQ
    refine pm_if_ne (tgt := 11) dX12_comer_5 (by decide) (fun c_5 => ?_) (fun c_5 => absurd c_5 (by decide))
    refine pm_iload_n dX12_comer_11 rfl rfl ?_
    refine pm_i2l dX12_comer_12 ?_
    refine pm_lconst (v := 0) dX12_comer_13 (by decide) ?_
    refine pm_ldc2 kw_1149 dX12_comer_14 ?_
    refine pm_callS (M2 := m_X12_in) (As := [_, _, _]) ok_X12_in kw_1115 kw_1116 dX12_comer_17 rfl rfl (Nat.le_of_ble_eq_true rfl) ⟨⟨Nat.le_of_ble_eq_true rfl, Nat.le_of_ble_eq_true rfl⟩, Nat.le_of_ble_eq_true rfl, Nat.le_of_ble_eq_true rfl⟩ ?_
    refine c_X12_in32 (lo := 0) (hi := 99) rfl rfl (fun u v => ?_) (fun u => ?_)
    · refine pm_if_eq (tgt := 35) dX12_comer_20 (by decide) (fun c_20 => absurd c_20 (by decide)) (fun c_20 => ?_)
      refine pm_iload_n dX12_comer_23 rfl rfl ?_
      refine pm_i2l dX12_comer_24 ?_
      refine pm_lconst (v := 0) dX12_comer_25 (by decide) ?_
      refine pm_ldc2 kw_1287 dX12_comer_26 ?_
      refine pm_callS (M2 := m_X12_in) (As := [_, _, _]) ok_X12_in kw_1115 kw_1116 dX12_comer_29 rfl rfl (Nat.le_of_ble_eq_true rfl) ⟨⟨Nat.le_of_ble_eq_true rfl, Nat.le_of_ble_eq_true rfl⟩, Nat.le_of_ble_eq_true rfl, Nat.le_of_ble_eq_true rfl⟩ ?_
      refine c_X12_in32 (lo := 0) (hi := 10) rfl rfl (fun u2 v2 => ?_) (fun u => ?_)
      · have hcd : (0 ≤ c ∧ c ≤ 99) ∧ (0 ≤ t ∧ t ≤ 10) := ⟨⟨u, v⟩, u2, v2⟩
        rw [if_pos hcd, if_pos hcd, if_pos hcd] at hQ
        refine pm_if_ne (tgt := 38) dX12_comer_32 (by decide) (fun c_32 => ?_) (fun c_32 => absurd c_32 (by decide))
        refine pm_aload_n dX12_comer_38 rfl rfl ?_
        refine pm_get fl_RX12_259_12 dX12_comer_39 rfl rfl ?_
        refine pm_bipush (v := 8) dX12_comer_42 (by decide) ?_
        refine pm_icmp_ne (tgt := 50) dX12_comer_44 (by decide) (fun c_44 => ?_) (fun c_44 => ?_)
        · have e : ¬ S 34 = 8 := fun e => c_44 (by rw [e]; rfl)
          rw [if_neg e, if_neg e, if_neg e] at hQ
          refine pm_aload_n dX12_comer_50 rfl rfl ?_
          refine pm_get fl_RX12_65_12 dX12_comer_51 rfl rfl ?_
          refine pm_aload_n dX12_comer_54 rfl rfl ?_
          refine pm_get fl_RX12_259_12 dX12_comer_55 rfl rfl ?_
          refine pm_iload_n dX12_comer_58 rfl rfl ?_
          refine pm_iast (w2 := (_, _, _, _, _, _, _, _, [_, _, _, _, _, _, _, _, _, _, _, _, _, _, _, _, _, _, _, _, _, _, _, _])) dX12_comer_59 rfl (th_in (by omega) (by decide)) rfl ?_
          rw [th_cl (by omega)]
          refine pm_aload_n dX12_comer_60 rfl rfl ?_
          refine pm_get fl_RX12_68_12 dX12_comer_61 rfl rfl ?_
          refine pm_aload_n dX12_comer_64 rfl rfl ?_
          refine pm_get fl_RX12_259_12 dX12_comer_65 rfl rfl ?_
          refine pm_iload_n dX12_comer_68 rfl rfl ?_
          refine pm_iast (w2 := (_, _, _, _, _, _, _, _, [_, _, _, _, _, _, _, _, _, _, _, _, _, _, _, _, _, _, _, _, _, _, _, _])) dX12_comer_69 rfl (th_in (by omega) (by decide)) rfl ?_
          rw [th_cl (by omega)]
          refine pm_aload_n dX12_comer_70 rfl rfl ?_
          refine pm_get fl_RX12_71_12 dX12_comer_71 rfl rfl ?_
          refine pm_aload_n dX12_comer_74 rfl rfl ?_
          refine pm_get fl_RX12_259_12 dX12_comer_75 rfl rfl ?_
          refine pm_iload_n dX12_comer_78 rfl rfl ?_
          refine pm_iast (w2 := (_, _, _, _, _, _, _, _, [_, _, _, _, _, _, _, _, _, _, _, _, _, _, _, _, _, _, _, _, _, _, _, _])) dX12_comer_79 rfl (th_in (by omega) (by decide)) rfl ?_
          rw [th_cl (by omega)]
          refine pm_aload_n dX12_comer_80 rfl rfl ?_
          refine pm_dup dX12_comer_81 rfl ?_
          refine pm_get fl_RX12_259_12 dX12_comer_82 rfl rfl ?_
          refine pm_iconst (v := 1) dX12_comer_85 (by decide) ?_
          refine pm_iadd dX12_comer_86 ?_
          rw [nI_1]
          refine pm_put (w2 := (_, _, _, _, _, _, _, _, [.inr (_, [_, _, _, _, _, _, _, _, _, _, _, _, _, _, _, _, _, _, _, _, _, _, _, _, _, _, _, _, _, _, _, _, _, _, _, _, _, _, _, _, _, _, _, _]), _, _, _, _, _, _, _, _, _, _, _, _, _, _, _, _, _, _, _, _, _, _, _])) fl_RX12_259_12 fp_12_34 dX12_comer_87 rfl rfl rfl (Nat.le_of_ble_eq_true rfl) rfl ?_
          refine pm_aload_n dX12_comer_90 rfl rfl ?_
          refine pm_get fl_RX12_259_12 dX12_comer_91 rfl rfl ?_
          refine pm_iret dX12_comer_94 rfl rfl rfl ?_
          exact hQ
        · refine pm_bipush (v := (-104)) dX12_comer_47 (by decide) ?_
          refine pm_iret dX12_comer_49 rfl rfl rfl ?_
          have e : S 34 = 8 := (nI_eq (b := 8) (by omega) (by decide)).mp c_44
          rw [if_pos e, if_pos e, if_pos e] at hQ
          exact hQ
      · have hcd : ¬ ((0 ≤ c ∧ c ≤ 99) ∧ (0 ≤ t ∧ t ≤ 10)) := fun z => u z.2
        rw [if_neg hcd, if_neg hcd, if_neg hcd] at hQ
        refine pm_if_ne (tgt := 38) dX12_comer_32 (by decide) (fun c_32 => absurd (rfl) c_32) (fun c_32 => ?_)
        refine pm_bipush (v := (-102)) dX12_comer_35 (by decide) ?_
        refine pm_iret dX12_comer_37 rfl rfl rfl ?_
        exact hQ
    · have hcd : ¬ ((0 ≤ c ∧ c ≤ 99) ∧ (0 ≤ t ∧ t ≤ 10)) := fun z => u z.1
      rw [if_neg hcd, if_neg hcd, if_neg hcd] at hQ
      refine pm_if_eq (tgt := 35) dX12_comer_20 (by decide) (fun c_20 => ?_) (fun c_20 => absurd (rfl) c_20)
      refine pm_bipush (v := (-102)) dX12_comer_35 (by decide) ?_
      refine pm_iret dX12_comer_37 rfl rfl rfl ?_
      exact hQ
  · rw [th_comOK, th_comS, th_comA, if_neg (th_okf hn (by omega)), if_neg (th_okf hn (by omega)), if_neg (th_okf hn (by omega))] at hQ
    refine pm_if_ne (tgt := 11) dX12_comer_5 (by decide) (fun c_5 => absurd (rfl) c_5) (fun c_5 => ?_)
    refine pm_bipush (v := (-101)) dX12_comer_8 (by decide) ?_
    refine pm_iret dX12_comer_10 rfl rfl rfl ?_
    exact hQ

set_option maxHeartbeats 600000 in
set_option maxRecDepth 100000 in
theorem c_X2_add {l : Launch} {G : pm_G} {ad : Nat → Nat → Nat} {S : Nat → Nat} {A : Nat → Nat → Int32} {X : Nat → Int32} {Y : Nat → Nat → Int32} {F : Nat → Int64} {Hd Cs : Nat → Option Nat} {m : List pm_A} {Q : pm_T} {j : Nat} {c t : Int32} (hj : j < S 2) (h34 : S 34 ≤ 8) (h1 : S 34 = 8 → Q ad (some (.int (-104))) (th_cw ad S A X Y F Hd Cs m)) (h0 : ¬ S 34 = 8 → Q ad (some (.int (nI (S 34 + 1)))) (th_cw ad (va_up S 34 (S 34 + 1)) (va_up (va_up (va_up A 19 (upd (A 19) (S 34) (nI j))) 20 (upd (A 20) (S 34) c)) 21 (upd (A 21) (S 34) t)) X Y F Hd (va_up Cs (S 34) (some (ad 1 j))) m)) : pm_C l G m_X2_add [.ref (ad 6 0), .ref (ad 1 j), .int c, .int t] ad (th_cw ad S A X Y F Hd Cs m) Q := by
  refine pm_met (by decide) (Nat.le_of_ble_eq_true rfl) ?_
  refine pm_aload_n dX2_add_0 rfl rfl ?_
  refine pm_get fl_RX2_24_2 dX2_add_1 rfl rfl ?_
  refine pm_aload_n dX2_add_4 rfl rfl ?_
  refine pm_get fl_RX2_11_2 dX2_add_5 rfl rfl ?_
  refine pm_alen (by decide) dX2_add_8 rfl ?_
  show pm_W _ _ _ _ _ _ (.int (nI 8) :: _) _ _ _ _
  refine pm_icmp_lt (tgt := 15) dX2_add_9 (by decide) (fun c_9 => ?_) (fun c_9 => ?_)
  · have hn : S 34 < 8 := (nI_ltI (by omega) (by decide)).mp c_9
    refine pm_aload_n dX2_add_15 rfl rfl ?_
    refine pm_get fl_RX2_11_2 dX2_add_16 rfl rfl ?_
    refine pm_aload_n dX2_add_19 rfl rfl ?_
    refine pm_get fl_RX2_24_2 dX2_add_20 rfl rfl ?_
    refine pm_aload_n dX2_add_23 rfl rfl ?_
    refine pm_aastS (w2 := (_, _, _, _, _, _, [_, _, _, _], _, _)) dX2_add_24 rfl (show pm_get? _ 1 j = some (.inr (10, th_sf A j)) from th_sc_get hj) (th_in hn (by decide)) rfl ?_
    rw [th_cl (by omega)]
    refine pm_aload_n dX2_add_25 rfl rfl ?_
    refine pm_get fl_RX2_17_2 dX2_add_26 rfl rfl ?_
    refine pm_aload_n dX2_add_29 rfl rfl ?_
    refine pm_get fl_RX2_24_2 dX2_add_30 rfl rfl ?_
    refine pm_iload_n dX2_add_33 rfl rfl ?_
    refine pm_iast (w2 := (_, _, _, _, _, _, [_, _, _, _], _, _)) dX2_add_34 rfl (th_in hn (by decide)) rfl ?_
    rw [th_cl (by omega)]
    refine pm_aload_n dX2_add_35 rfl rfl ?_
    refine pm_get fl_RX2_21_2 dX2_add_36 rfl rfl ?_
    refine pm_aload_n dX2_add_39 rfl rfl ?_
    refine pm_get fl_RX2_24_2 dX2_add_40 rfl rfl ?_
    refine pm_iload_n dX2_add_43 rfl rfl ?_
    refine pm_iast (w2 := (_, _, _, _, _, _, [_, _, _, _], _, _)) dX2_add_44 rfl (th_in hn (by decide)) rfl ?_
    rw [th_cl (by omega)]
    refine pm_aload_n dX2_add_45 rfl rfl ?_
    refine pm_dup dX2_add_46 rfl ?_
    refine pm_get fl_RX2_24_2 dX2_add_47 rfl rfl ?_
    refine pm_iconst (v := 1) dX2_add_50 (by decide) ?_
    refine pm_iadd dX2_add_51 ?_
    rw [nI_1]
    refine pm_put (w2 := (_, _, _, _, _, _, [.inr (_, [_, _, _, _]), _, _, _], _, _)) fl_RX2_24_2 fp_2_0 dX2_add_52 rfl rfl rfl (Nat.le_of_ble_eq_true rfl) rfl ?_
    refine pm_aload_n dX2_add_55 rfl rfl ?_
    refine pm_get fl_RX2_24_2 dX2_add_56 rfl rfl ?_
    refine pm_iret dX2_add_59 rfl rfl rfl ?_
    exact h0 (by omega)
  · refine pm_bipush (v := (-104)) dX2_add_12 (by decide) ?_
    refine pm_iret dX2_add_14 rfl rfl rfl ?_
    exact h1 (by
      rw [nI_ltI (by omega) (by decide)] at c_9
      omega)

set_option maxHeartbeats 600000 in
set_option maxRecDepth 100000 in
theorem c_X11_comer {l : Launch} {G : pm_G} {ad : Nat → Nat → Nat} {S : Nat → Nat} {A : Nat → Nat → Int32} {X : Nat → Int32} {Y : Nat → Nat → Int32} {F : Nat → Int64} {Hd Cs : Nat → Option Nat} {m : List pm_A} {Q : pm_T} {x c t : Int32} (hI : th_I S A) (hQ : Q ad (some (.int (th_comOK S x c t))) (th_cw ad (th_comS S x c t) (th_comA S A x c t) X Y F Hd (th_comC ad S Cs x c t) m)) : pm_C l G m_X11_comer [.ref (ad 0 0), .int x, .int c, .int t] ad (th_cw ad S A X Y F Hd Cs m) Q := by
  have h8 := hI.2.2.2.2.1.1
  have h3 := hI.2.1.1
  have h34 := hI.2.2.2.2.2.2.1.1
  refine pm_met (by decide) (Nat.le_of_ble_eq_true rfl) ?_
  refine pm_aload_n dX11_comer_0 rfl rfl ?_
  refine pm_iload_n dX11_comer_1 rfl rfl ?_
  refine pm_callV (M2 := m_X11_schoolOf) (As := [_]) ok_X11_schoolOf (ci := 11) rfl kw_357 kw_359 kw_4 dX11_comer_2 rfl rfl rfl (Nat.le_of_ble_eq_true rfl) ⟨⟨Nat.le_of_ble_eq_true rfl, Nat.le_of_ble_eq_true rfl⟩, Nat.le_of_ble_eq_true rfl, Nat.le_of_ble_eq_true rfl⟩ ?_
  refine c_X11_schoolOf h3 (fun j hj e => ?_) (fun hn => ?_)
  · subst e
    rw [th_comOK, th_comS, th_comA, th_comC, if_pos (th_okt hj (by omega)), if_pos (th_okt hj (by omega)), if_pos (th_okt hj (by omega)), if_pos (th_okt hj (by omega)), th_n_nI (by omega)] at hQ
    refine pm_astore (lv2 := [(4, _), (0, _), (1, _), (2, _), (3, _)]) dX11_comer_5 (Nat.le_of_ble_eq_true rfl) rfl ?_
    refine pm_aload dX11_comer_7 rfl ?_
    refine pm_ifnonnull (tgt := 15) dX11_comer_9 (by decide) ?_
    refine pm_iload_n dX11_comer_15 rfl rfl ?_
    refine pm_iconst (v := 0) dX11_comer_16 (by decide) ?_
    refine pm_bipush (v := 99) dX11_comer_17 (by decide) ?_
    refine pm_callS (M2 := m_X11_isOutside) (As := [_, _, _]) ok_X11_isOutside kw_361 kw_362 dX11_comer_19 rfl rfl (Nat.le_of_ble_eq_true rfl) ⟨⟨Nat.le_of_ble_eq_true rfl, Nat.le_of_ble_eq_true rfl⟩, Nat.le_of_ble_eq_true rfl, Nat.le_of_ble_eq_true rfl⟩ ?_
    refine c_X11_isOutside (fun u => ?_) (fun u v => ?_)
    · have hcd : ¬ ((0 ≤ c ∧ c ≤ 99) ∧ (0 ≤ t ∧ t ≤ 10)) := fun z => u z.1
      rw [if_neg hcd, if_neg hcd, if_neg hcd, if_neg hcd] at hQ
      refine pm_if_ne (tgt := 35) dX11_comer_22 (by decide) (fun c_22 => ?_) (fun c_22 => absurd c_22 (by decide))
      refine pm_bipush (v := (-102)) dX11_comer_35 (by decide) ?_
      refine pm_iret dX11_comer_37 rfl rfl rfl ?_
      exact hQ
    · refine pm_if_ne (tgt := 35) dX11_comer_22 (by decide) (fun c_22 => absurd (rfl) c_22) (fun c_22 => ?_)
      refine pm_iload_n dX11_comer_25 rfl rfl ?_
      refine pm_iconst (v := 0) dX11_comer_26 (by decide) ?_
      refine pm_bipush (v := 10) dX11_comer_27 (by decide) ?_
      refine pm_callS (M2 := m_X11_isOutside) (As := [_, _, _]) ok_X11_isOutside kw_361 kw_362 dX11_comer_29 rfl rfl (Nat.le_of_ble_eq_true rfl) ⟨⟨Nat.le_of_ble_eq_true rfl, Nat.le_of_ble_eq_true rfl⟩, Nat.le_of_ble_eq_true rfl, Nat.le_of_ble_eq_true rfl⟩ ?_
      refine c_X11_isOutside (fun u => ?_) (fun u2 v2 => ?_)
      · have hcd : ¬ ((0 ≤ c ∧ c ≤ 99) ∧ (0 ≤ t ∧ t ≤ 10)) := fun z => u z.2
        rw [if_neg hcd, if_neg hcd, if_neg hcd, if_neg hcd] at hQ
        refine pm_if_eq (tgt := 38) dX11_comer_32 (by decide) (fun c_32 => absurd c_32 (by decide)) (fun c_32 => ?_)
        refine pm_bipush (v := (-102)) dX11_comer_35 (by decide) ?_
        refine pm_iret dX11_comer_37 rfl rfl rfl ?_
        exact hQ
      · have hcd : (0 ≤ c ∧ c ≤ 99) ∧ (0 ≤ t ∧ t ≤ 10) := ⟨⟨u, v⟩, u2, v2⟩
        rw [if_pos hcd, if_pos hcd, if_pos hcd, if_pos hcd] at hQ
        refine pm_if_eq (tgt := 38) dX11_comer_32 (by decide) (fun c_32 => ?_) (fun c_32 => absurd (rfl) c_32)
        refine pm_aload_n dX11_comer_38 rfl rfl ?_
        refine pm_get fl_RX11_52_11 dX11_comer_39 rfl rfl ?_
        refine pm_aload dX11_comer_42 rfl ?_
        refine pm_iload_n dX11_comer_44 rfl rfl ?_
        refine pm_iload_n dX11_comer_45 rfl rfl ?_
        refine pm_callV (M2 := m_X2_add) (As := [_, _, _]) ok_X2_add (ci := 2) rfl kw_804 kw_805 kw_806 dX11_comer_46 rfl rfl rfl (Nat.le_of_ble_eq_true rfl) ⟨⟨Nat.le_of_ble_eq_true rfl, Nat.le_of_ble_eq_true rfl⟩, Nat.le_of_ble_eq_true rfl, Nat.le_of_ble_eq_true rfl⟩ ?_
        refine c_X2_add hj h34 (fun e => ?_) (fun e => ?_)
        · rw [if_pos e, if_pos e, if_pos e, if_pos e] at hQ
          refine pm_iret dX11_comer_49 rfl rfl rfl ?_
          exact hQ
        · rw [if_neg e, if_neg e, if_neg e, if_neg e] at hQ
          refine pm_iret dX11_comer_49 rfl rfl rfl ?_
          exact hQ
  · rw [th_comOK, th_comS, th_comA, th_comC, if_neg (th_okf hn (by omega)), if_neg (th_okf hn (by omega)), if_neg (th_okf hn (by omega)), if_neg (th_okf hn (by omega))] at hQ
    refine pm_nstore (lv2 := [(4, _), (0, _), (1, _), (2, _), (3, _)]) dX11_comer_5 (Nat.le_of_ble_eq_true rfl) rfl ?_
    refine pm_nload dX11_comer_7 rfl ?_
    refine pm_ifnonnullN dX11_comer_9 ?_
    refine pm_bipush (v := (-101)) dX11_comer_12 (by decide) ?_
    refine pm_iret dX11_comer_14 rfl rfl rfl ?_
    exact hQ

set_option maxHeartbeats 600000 in
set_option maxRecDepth 100000 in
theorem c_X12_gone {l : Launch} {G : pm_G} {ad : Nat → Nat → Nat} {a0 a3 a4 a5 a6 a7 : List pm_A} {a1 a2 : Nat → Option pm_A} {S : Nat → Nat} {A : Nat → Nat → Int32} {s : Nat → Int32} {B : Nat → Nat → Int32} {hs : Int64} {Q : pm_T} (hQ : Q ad (some (.int (nI (S 34)))) (a0, a1, a2, a3, a4, a5, a6, a7, th_mp ad (va_up S 34 0) A s B hs)) : pm_C l G m_X12_gone [.ref (ad 8 0)] ad (a0, a1, a2, a3, a4, a5, a6, a7, th_mp ad S A s B hs) Q := by
  refine pm_met (by decide) (Nat.le_of_ble_eq_true rfl) ?_
  refine pm_aload_n dX12_gone_0 rfl rfl ?_
  refine pm_get fl_RX12_259_12 dX12_gone_1 rfl rfl ?_
  refine pm_istore_n (lv2 := [(1, _), (0, _)]) dX12_gone_4 rfl (Nat.le_of_ble_eq_true rfl) rfl ?_
  refine pm_aload_n dX12_gone_5 rfl rfl ?_
  refine pm_iconst (v := 0) dX12_gone_6 (by decide) ?_
  refine pm_put (w2 := (_, _, _, _, _, _, _, _, [.inr (_, [_, _, _, _, _, _, _, _, _, _, _, _, _, _, _, _, _, _, _, _, _, _, _, _, _, _, _, _, _, _, _, _, _, _, _, _, _, _, _, _, _, _, _, _]), _, _, _, _, _, _, _, _, _, _, _, _, _, _, _, _, _, _, _, _, _, _, _])) fl_RX12_259_12 fp_12_34 dX12_gone_7 rfl rfl rfl (Nat.le_of_ble_eq_true rfl) rfl ?_
  refine pm_iload_n dX12_gone_10 rfl rfl ?_
  refine pm_iret dX12_gone_11 rfl rfl rfl ?_
  exact hQ

set_option maxHeartbeats 600000 in
set_option maxRecDepth 100000 in
theorem c_X2_clear {l : Launch} {G : pm_G} {ad : Nat → Nat → Nat} {S : Nat → Nat} {A : Nat → Nat → Int32} {X : Nat → Int32} {Y : Nat → Nat → Int32} {F : Nat → Int64} {Hd Cs : Nat → Option Nat} {m : List pm_A} {Q : pm_T} (hQ : Q ad (some (.int (nI (S 34)))) (th_cw ad (va_up S 34 0) A X Y F Hd Cs m)) : pm_C l G m_X2_clear [.ref (ad 6 0)] ad (th_cw ad S A X Y F Hd Cs m) Q := by
  refine pm_met (by decide) (Nat.le_of_ble_eq_true rfl) ?_
  refine pm_aload_n dX2_clear_0 rfl rfl ?_
  refine pm_get fl_RX2_24_2 dX2_clear_1 rfl rfl ?_
  refine pm_istore_n (lv2 := [(1, _), (0, _)]) dX2_clear_4 rfl (Nat.le_of_ble_eq_true rfl) rfl ?_
  refine pm_aload_n dX2_clear_5 rfl rfl ?_
  refine pm_iconst (v := 0) dX2_clear_6 (by decide) ?_
  refine pm_put (w2 := (_, _, _, _, _, _, [.inr (_, [_, _, _, _]), _, _, _], _, _)) fl_RX2_24_2 fp_2_0 dX2_clear_7 rfl rfl rfl (Nat.le_of_ble_eq_true rfl) rfl ?_
  refine pm_iload_n dX2_clear_10 rfl rfl ?_
  refine pm_iret dX2_clear_11 rfl rfl rfl ?_
  exact hQ

set_option maxHeartbeats 600000 in
set_option maxRecDepth 100000 in
theorem c_X11_gone {l : Launch} {G : pm_G} {ad : Nat → Nat → Nat} {S : Nat → Nat} {A : Nat → Nat → Int32} {X : Nat → Int32} {Y : Nat → Nat → Int32} {F : Nat → Int64} {Hd Cs : Nat → Option Nat} {m : List pm_A} {Q : pm_T} (hQ : Q ad (some (.int (nI (S 34)))) (th_cw ad (va_up S 34 0) A X Y F Hd Cs m)) : pm_C l G m_X11_gone [.ref (ad 0 0)] ad (th_cw ad S A X Y F Hd Cs m) Q := by
  refine pm_met (by decide) (Nat.le_of_ble_eq_true rfl) ?_
  refine pm_aload_n dX11_gone_0 rfl rfl ?_
  refine pm_get fl_RX11_52_11 dX11_gone_1 rfl rfl ?_
  refine pm_callV (M2 := m_X2_clear) (As := []) ok_X2_clear (ci := 2) rfl kw_812 kw_813 kw_814 dX11_gone_4 rfl rfl rfl (Nat.le_of_ble_eq_true rfl) ⟨⟨Nat.le_of_ble_eq_true rfl, Nat.le_of_ble_eq_true rfl⟩, Nat.le_of_ble_eq_true rfl, Nat.le_of_ble_eq_true rfl⟩ ?_
  refine c_X2_clear ?_
  refine pm_iret dX11_gone_7 rfl rfl rfl ?_
  exact hQ

def th_ws (A : Nat → Nat → Int32) (how i n : Nat) : Nat → Int32 × Nat × Nat
  | 0 => (A 11 i, 1, 0)
  | k + 1 => if n / 2 ^ k % 2 = 1 then (th_meet A how (th_n (A 7 i)) (th_n (A 19 k)) (th_ws A how i n k).1 (A 20 k), (th_ws A how i n k).2.1 * (th_n (A 21 k) - (th_ws A how i n k).2.2), (th_ws A how i n k).2.2 + 1) else th_ws A how i n k
theorem th_ws0 {A : Nat → Nat → Int32} {how i n k : Nat} (h : ¬ n / 2 ^ k % 2 = 1) : th_ws A how i n (k + 1) = th_ws A how i n k := by rw [th_ws, if_neg h]
theorem th_ws1 {A : Nat → Nat → Int32} {how i n k ch fo sa sc t : Nat} {c : Int32} (h : n / 2 ^ k % 2 = 1) (hp : th_ws A how i n k = (c, ch, fo)) (e1 : A 7 i = nI sa) (e2 : A 19 k = nI sc) (e3 : A 21 k = nI t) (h1 : sa < 3) (h2 : sc < 3) (h3 : t ≤ 10) : th_ws A how i n (k + 1) = (th_meet A how sa sc c (A 20 k), ch * (t - fo), fo + 1) := by
  rw [th_ws, if_pos h, hp, e1, e2, e3, th_n_nI (by omega), th_n_nI (by omega), th_n_nI (by omega)]
theorem th_ws_bd {S : Nat → Nat} {A : Nat → Nat → Int32} (hI : th_I S A) {i n : Nat} (hi : i < S 11) : ∀ k, k ≤ S 34 → ∃ c : Nat, c ≤ 999 ∧ (th_ws A (S 6) i n k).1 = nI c ∧ (th_ws A (S 6) i n k).2.1 ≤ 10 ^ k ∧ (th_ws A (S 6) i n k).2.2 ≤ k := by
  intro k
  have h3 := hI.2.1.1
  obtain ⟨-, ⟨sa, hsa, esa⟩, -, -, -, ⟨c0, hc0, ec0⟩, -⟩ := th_nk hI hi
  induction k with
  | zero => intro _; exact ⟨c0, hc0, ec0, Nat.le_refl _, Nat.le_refl _⟩
  | succ k ih =>
    intro hk
    obtain ⟨c, hc, ec, h1, h2⟩ := ih (by omega)
    by_cases hb : n / 2 ^ k % 2 = 1
    · obtain ⟨sc, cc, t, hsc, hcc, ht, e1, e2, e3⟩ := hI.2.2.2.2.2.2.1.2 k (by omega)
      have hp : th_ws A (S 6) i n k = ((th_ws A (S 6) i n k).1, (th_ws A (S 6) i n k).2.1, (th_ws A (S 6) i n k).2.2) := rfl
      rw [th_ws1 hb hp esa e1 e3 (by omega) (by omega) ht, ec, e2]
      obtain ⟨d, hd, ed⟩ := th_meet_bd hI.2.1 (how := S 6) hsa hsc hc (show cc ≤ 999 by omega)
      refine ⟨d, hd, ed, ?_, by show _ + 1 ≤ _; omega⟩
      show (th_ws A (S 6) i n k).2.1 * (t - (th_ws A (S 6) i n k).2.2) ≤ 10 ^ (k + 1)
      rw [Nat.pow_succ]
      exact Nat.mul_le_mul h1 (by omega)
    · rw [th_ws0 hb]
      exact ⟨c, hc, ec, Nat.le_trans h1 (Nat.pow_le_pow_right (by decide) (by omega)), by omega⟩
/-- the worth of a set, above ten to the number of its fights -/
def th_wl (S : Nat → Nat) (A : Nat → Nat → Int32) (i n : Nat) : Int64 := (th_ws A (S 6) i n (S 34)).1.toInt64 * lN (th_ws A (S 6) i n (S 34)).2.1
def th_wN (S : Nat → Nat) (A : Nat → Nat → Int32) (i n : Nat) : Nat := th_n (th_ws A (S 6) i n (S 34)).1 * (th_ws A (S 6) i n (S 34)).2.1
theorem th_wl_N {S : Nat → Nat} {A : Nat → Nat → Int32} (hI : th_I S A) {i n : Nat} (hi : i < S 11) : th_wl S A i n = lN (th_wN S A i n) ∧ th_wN S A i n < 2 ^ 40 := by
  obtain ⟨c, hc, ec, h1, -⟩ := th_ws_bd hI (n := n) hi (S 34) (Nat.le_refl _)
  have h34 := hI.2.2.2.2.2.2.1.1
  have h2 : (th_ws A (S 6) i n (S 34)).2.1 ≤ 10 ^ 8 := Nat.le_trans h1 (Nat.pow_le_pow_right (by decide) h34)
  have h3 := Nat.mul_le_mul hc h2
  unfold th_wl th_wN
  rw [ec, nI_l (by omega), th_n_nI (by omega), lN_mul]
  exact ⟨rfl, by omega⟩
theorem th_ten {t f : Nat} (ht : t ≤ 10) (hf : f ≤ 8) : (nI t - nI f ≤ 0 → t - f = 0) ∧ (¬ nI t - nI f ≤ 0 → (nI t - nI f).toInt64 = lN (t - f)) := by
  have e := pk_sub_toInt (a := t) (b := f) (by omega) (by omega)
  constructor
  · intro h
    rw [Int32.le_iff_toInt_le, e] at h
    have : ((0 : Int32).toInt) = 0 := by decide
    omega
  · intro h
    rw [Int32.le_iff_toInt_le, e] at h
    have h0 : ((0 : Int32).toInt) = 0 := by decide
    rw [pk_sub (show f ≤ t by omega), nI_l (by omega)]
theorem th_ten2 {t f : Nat} (ht : t ≤ 10) (hf : f ≤ 8) : (if (0 : Int32) < nI t - nI f then nI t - nI f else 0).toInt64 = lN (t - f) := by
  by_cases h : nI t - nI f ≤ 0
  · rw [if_neg (Int32.not_lt.mpr h), (th_ten ht hf).1 h]
    rfl
  · rw [if_pos (Int32.not_le.mp h)]
    exact (th_ten ht hf).2 h
theorem th_pi10 : ∀ b, b < 10 → th_pi 10 b = nI (10 ^ b) := by decide +kernel
theorem th_pw10 : ∀ b, b < 10 → th_pw 10 b = lN (10 ^ b) := by decide +kernel
theorem th_p10 : ∀ b, b < 10 → 0 < 10 ^ b ∧ 10 ^ b < 2 ^ 31 := by decide +kernel
set_option maxHeartbeats 600000 in
set_option maxRecDepth 100000 in
theorem c_X12_worthOfSet {l : Launch} {G : pm_G} {ad : Nat → Nat → Nat} {a0 a3 a4 a5 a6 a7 : List pm_A} {a1 a2 : Nat → Option pm_A} {S : Nat → Nat} {A : Nat → Nat → Int32} {s : Nat → Int32} {B : Nat → Nat → Int32} {hs : Int64} {Q : pm_T} {i n : Nat} (hI : th_I S A) (hi : i < S 11) (hn : n < 1024) (hQ : Q ad (some (.long (th_wl S A i n))) (a0, a1, a2, a3, a4, a5, a6, a7, th_mp ad S A s B hs)) : pm_C l G m_X12_worthOfSet [.ref (ad 8 0), .int (nI i), .int (nI n)] ad (a0, a1, a2, a3, a4, a5, a6, a7, th_mp ad S A s B hs) Q := by
  have h8 := hI.2.2.2.2.1.1
  have h3 := hI.2.1.1
  have h34 := hI.2.2.2.2.2.2.1.1
  obtain ⟨-, ⟨sa, hsa, esa⟩, -⟩ := th_nk hI hi
  refine pm_met (by decide) (Nat.le_of_ble_eq_true rfl) ?_
  refine pm_aload_n dX12_worthOfSet_0 rfl rfl ?_
  refine pm_get fl_RX12_40_12 dX12_worthOfSet_1 rfl rfl ?_
  refine pm_iload_n dX12_worthOfSet_4 rfl rfl ?_
  refine pm_iald dX12_worthOfSet_5 rfl (th_in (by omega) (by decide)) ?_
  rw [th_cl (by omega)]
  refine pm_istore_n (lv2 := [(3, _), (0, _), (1, _), (2, _)]) dX12_worthOfSet_6 rfl (Nat.le_of_ble_eq_true rfl) rfl ?_
  refine pm_lconst (v := 1) dX12_worthOfSet_7 (by decide) ?_
  refine pm_lstore (lv2 := [(4, _), (3, _), (0, _), (1, _), (2, _)]) dX12_worthOfSet_8 (Nat.le_of_ble_eq_true rfl) rfl ?_
  refine pm_iconst (v := 0) dX12_worthOfSet_10 (by decide) ?_
  refine pm_istore (lv2 := [(6, _), (4, _), (3, _), (0, _), (1, _), (2, _)]) dX12_worthOfSet_11 (Nat.le_of_ble_eq_true rfl) rfl ?_
  refine pm_iconst (v := 0) dX12_worthOfSet_13 (by decide) ?_
  refine pm_istore (lv2 := [(7, _), (6, _), (4, _), (3, _), (0, _), (1, _), (2, _)]) dX12_worthOfSet_14 (Nat.le_of_ble_eq_true rfl) rfl ?_
  suffices H : ∀ k, k ≤ S 34 → ∀ c ch fo, th_ws A (S 6) i n k = (c, ch, fo) → pm_W l G m_X12_worthOfSet ad 16 [(7, .int (nI k)), (6, .int (nI fo)), (4, .long (lN ch)), (3, .int c), (0, .ref (ad 8 0)), (1, .int (nI i)), (2, .int (nI n))] [] (a0, a1, a2, a3, a4, a5, a6, a7, th_mp ad S A s B hs) 0 0 Q from H 0 (Nat.zero_le _) (A 11 i) 1 0 rfl
  refine th_loop _ ?_
  intro k hk k2 c ch fo hp
  obtain ⟨-, -, -, -, hfo⟩ := th_ws_bd hI (n := n) hi k hk
  rw [hp] at hfo
  have hfo : fo ≤ k := hfo
  refine pm_iload dX12_worthOfSet_16 rfl ?_
  refine pm_aload_n dX12_worthOfSet_18 rfl rfl ?_
  refine pm_get fl_RX12_259_12 dX12_worthOfSet_19 rfl rfl ?_
  refine pm_icmp_ge (tgt := 99) dX12_worthOfSet_22 (by decide) (fun c_22 => ?_) (fun c_22 => ?_)
  · refine pm_iload_n dX12_worthOfSet_99 rfl rfl ?_
    refine pm_i2l dX12_worthOfSet_100 ?_
    refine pm_lload dX12_worthOfSet_101 rfl ?_
    refine pm_lmul dX12_worthOfSet_103 ?_
    refine pm_lret dX12_worthOfSet_104 rfl rfl rfl ?_
    have he : k = S 34 := by
      rw [nI_leI (by omega) (by omega)] at c_22
      omega
    subst he
    refine th_rl ?_ hQ
    rw [th_wl, hp]
  · have hlt : k < S 34 := by
      rw [nI_leI (by omega) (by omega)] at c_22
      omega
    obtain ⟨sc, cc, t, hsc, hcc, ht, e1, e2, e3⟩ := hI.2.2.2.2.2.2.1.2 k hlt
    refine pm_iload_n dX12_worthOfSet_25 rfl rfl ?_
    refine pm_iload dX12_worthOfSet_26 rfl ?_
    refine pm_ishr dX12_worthOfSet_28 ?_
    refine pm_iconst (v := 1) dX12_worthOfSet_29 (by decide) ?_
    refine pm_iand dX12_worthOfSet_30 ?_
    rw [th_bit (by omega) (by omega)]
    refine pm_iconst (v := 1) dX12_worthOfSet_31 (by decide) ?_
    refine pm_icmp_ne (tgt := 93) dX12_worthOfSet_32 (by decide) (fun c_32 => ?_) (fun c_32 => ?_)
    · refine pm_iinc (lv2 := [(7, _), (6, _), (4, _), (3, _), (0, _), (1, _), (2, _)]) dX12_worthOfSet_93 rfl (nI_1 k) (Nat.le_of_ble_eq_true rfl) rfl ?_
      refine pm_goto (tgt := 16) dX12_worthOfSet_96 (by decide) ?_
      refine pm_pick [0, 1, 2, 3, 4, 5, 6] rfl ?_
      have hbit : ¬ n / 2 ^ k % 2 = 1 := fun e => c_32 (by rw [e]; rfl)
      exact k2 hlt c ch fo ((th_ws0 hbit).trans hp)
    · have hbit : n / 2 ^ k % 2 = 1 := (nI_eq (b := 1) (by omega) (by decide)).mp c_32
      refine pm_aload_n dX12_worthOfSet_35 rfl rfl ?_
      refine pm_get fl_RX12_71_12 dX12_worthOfSet_36 rfl rfl ?_
      refine pm_iload dX12_worthOfSet_39 rfl ?_
      refine pm_iald dX12_worthOfSet_41 rfl (th_in (by omega) (by decide)) ?_
      rw [th_cl (by omega), e3]
      refine pm_iload dX12_worthOfSet_42 rfl ?_
      refine pm_isub dX12_worthOfSet_44 ?_
      refine pm_istore (lv2 := [(8, _), (7, _), (6, _), (4, _), (3, _), (0, _), (1, _), (2, _)]) dX12_worthOfSet_45 (Nat.le_of_ble_eq_true rfl) rfl ?_
      refine pm_lload dX12_worthOfSet_47 rfl ?_
      refine pm_iload dX12_worthOfSet_49 rfl ?_
      refine pm_if_le (tgt := 60) dX12_worthOfSet_51 (by decide) (fun c_51 => ?_) (fun c_51 => ?_)
      · refine pm_lconst (v := 0) dX12_worthOfSet_60 (by decide) ?_
        have e0 : t - fo = 0 := (th_ten ht (by omega)).1 c_51
        rw [show (0 : Int64) = lN (t - fo) by rw [e0]; rfl]
        refine pm_lmul dX12_worthOfSet_61 ?_
        rw [lN_mul]
        refine pm_lstore (lv2 := [(4, _), (8, _), (7, _), (6, _), (3, _), (0, _), (1, _), (2, _)]) dX12_worthOfSet_62 (Nat.le_of_ble_eq_true rfl) rfl ?_
        refine pm_aload_n dX12_worthOfSet_64 rfl rfl ?_
        refine pm_aload_n dX12_worthOfSet_65 rfl rfl ?_
        refine pm_get fl_RX12_28_12 dX12_worthOfSet_66 rfl rfl ?_
        refine pm_iload_n dX12_worthOfSet_69 rfl rfl ?_
        refine pm_iald dX12_worthOfSet_70 rfl (th_in (by omega) (by decide)) ?_
        rw [th_cl (by omega), esa]
        refine pm_aload_n dX12_worthOfSet_71 rfl rfl ?_
        refine pm_get fl_RX12_65_12 dX12_worthOfSet_72 rfl rfl ?_
        refine pm_iload dX12_worthOfSet_75 rfl ?_
        refine pm_iald dX12_worthOfSet_77 rfl (th_in (by omega) (by decide)) ?_
        rw [th_cl (by omega), e1]
        refine pm_iload_n dX12_worthOfSet_78 rfl rfl ?_
        refine pm_aload_n dX12_worthOfSet_79 rfl rfl ?_
        refine pm_get fl_RX12_68_12 dX12_worthOfSet_80 rfl rfl ?_
        refine pm_iload dX12_worthOfSet_83 rfl ?_
        refine pm_iald dX12_worthOfSet_85 rfl (th_in (by omega) (by decide)) ?_
        rw [th_cl (by omega)]
        refine pm_callV (M2 := m_X12_meet) (As := [_, _, _, _]) ok_X12_meet (ci := 12) rfl kw_1182 kw_1184 kw_29 dX12_worthOfSet_86 rfl rfl rfl (Nat.le_of_ble_eq_true rfl) ⟨⟨Nat.le_of_ble_eq_true rfl, Nat.le_of_ble_eq_true rfl⟩, Nat.le_of_ble_eq_true rfl, Nat.le_of_ble_eq_true rfl⟩ ?_
        refine c_X12_meet hI.2.1 hsa hsc hI.2.2.2.1 ?_
        refine pm_istore_n (lv2 := [(3, _), (4, _), (8, _), (7, _), (6, _), (0, _), (1, _), (2, _)]) dX12_worthOfSet_89 rfl (Nat.le_of_ble_eq_true rfl) rfl ?_
        refine pm_iinc (lv2 := [(6, _), (3, _), (4, _), (8, _), (7, _), (0, _), (1, _), (2, _)]) dX12_worthOfSet_90 rfl (nI_1 fo) (Nat.le_of_ble_eq_true rfl) rfl ?_
        refine pm_iinc (lv2 := [(7, _), (6, _), (3, _), (4, _), (8, _), (0, _), (1, _), (2, _)]) dX12_worthOfSet_93 rfl (nI_1 k) (Nat.le_of_ble_eq_true rfl) rfl ?_
        refine pm_goto (tgt := 16) dX12_worthOfSet_96 (by decide) ?_
        refine pm_pick [0, 1, 3, 2, 5, 6, 7] rfl ?_
        refine k2 hlt _ (ch * (t - fo)) (fo + 1) (th_ws1 hbit hp esa e1 e3 (by omega) (by omega) ht)
      · refine pm_iload dX12_worthOfSet_54 rfl ?_
        refine pm_i2l dX12_worthOfSet_56 ?_
        refine pm_goto (tgt := 61) dX12_worthOfSet_57 (by decide) ?_
        rw [(th_ten ht (by omega)).2 c_51]
        refine pm_lmul dX12_worthOfSet_61 ?_
        rw [lN_mul]
        refine pm_lstore (lv2 := [(4, _), (8, _), (7, _), (6, _), (3, _), (0, _), (1, _), (2, _)]) dX12_worthOfSet_62 (Nat.le_of_ble_eq_true rfl) rfl ?_
        refine pm_aload_n dX12_worthOfSet_64 rfl rfl ?_
        refine pm_aload_n dX12_worthOfSet_65 rfl rfl ?_
        refine pm_get fl_RX12_28_12 dX12_worthOfSet_66 rfl rfl ?_
        refine pm_iload_n dX12_worthOfSet_69 rfl rfl ?_
        refine pm_iald dX12_worthOfSet_70 rfl (th_in (by omega) (by decide)) ?_
        rw [th_cl (by omega), esa]
        refine pm_aload_n dX12_worthOfSet_71 rfl rfl ?_
        refine pm_get fl_RX12_65_12 dX12_worthOfSet_72 rfl rfl ?_
        refine pm_iload dX12_worthOfSet_75 rfl ?_
        refine pm_iald dX12_worthOfSet_77 rfl (th_in (by omega) (by decide)) ?_
        rw [th_cl (by omega), e1]
        refine pm_iload_n dX12_worthOfSet_78 rfl rfl ?_
        refine pm_aload_n dX12_worthOfSet_79 rfl rfl ?_
        refine pm_get fl_RX12_68_12 dX12_worthOfSet_80 rfl rfl ?_
        refine pm_iload dX12_worthOfSet_83 rfl ?_
        refine pm_iald dX12_worthOfSet_85 rfl (th_in (by omega) (by decide)) ?_
        rw [th_cl (by omega)]
        refine pm_callV (M2 := m_X12_meet) (As := [_, _, _, _]) ok_X12_meet (ci := 12) rfl kw_1182 kw_1184 kw_29 dX12_worthOfSet_86 rfl rfl rfl (Nat.le_of_ble_eq_true rfl) ⟨⟨Nat.le_of_ble_eq_true rfl, Nat.le_of_ble_eq_true rfl⟩, Nat.le_of_ble_eq_true rfl, Nat.le_of_ble_eq_true rfl⟩ ?_
        refine c_X12_meet hI.2.1 hsa hsc hI.2.2.2.1 ?_
        refine pm_istore_n (lv2 := [(3, _), (4, _), (8, _), (7, _), (6, _), (0, _), (1, _), (2, _)]) dX12_worthOfSet_89 rfl (Nat.le_of_ble_eq_true rfl) rfl ?_
        refine pm_iinc (lv2 := [(6, _), (3, _), (4, _), (8, _), (7, _), (0, _), (1, _), (2, _)]) dX12_worthOfSet_90 rfl (nI_1 fo) (Nat.le_of_ble_eq_true rfl) rfl ?_
        refine pm_iinc (lv2 := [(7, _), (6, _), (3, _), (4, _), (8, _), (0, _), (1, _), (2, _)]) dX12_worthOfSet_93 rfl (nI_1 k) (Nat.le_of_ble_eq_true rfl) rfl ?_
        refine pm_goto (tgt := 16) dX12_worthOfSet_96 (by decide) ?_
        refine pm_pick [0, 1, 3, 2, 5, 6, 7] rfl ?_
        refine k2 hlt _ (ch * (t - fo)) (fo + 1) (th_ws1 hbit hp esa e1 e3 (by omega) (by omega) ht)

set_option maxHeartbeats 600000 in
set_option maxRecDepth 100000 in
theorem c_X2_worthAbove {l : Launch} {G : pm_G} {ad : Nat → Nat → Nat} {S : Nat → Nat} {A : Nat → Nat → Int32} {X : Nat → Int32} {Y : Nat → Nat → Int32} {F : Nat → Int64} {Hd Cs : Nat → Option Nat} {m : List pm_A} {Q : pm_T} {i ki n : Nat} (hI : th_I S A) (hJ : th_J ad S A Y Cs) (hi : i < S 11) (hn : n < 1024) (hwi : th_g2 ad S A Y i = some (.inr (pm_kc ki, th_nf ad A Y i))) (hQ : Q ad (some (.long (th_wl S A i n))) (th_cw ad S A X Y F Hd Cs m)) : pm_C l G m_X2_worthAbove [.ref (ad 6 0), .ref (ad 2 i), .int (nI n), .int (nI (S 6))] ad (th_cw ad S A X Y F Hd Cs m) Q := by
  have h8 := hI.2.2.2.2.1.1
  have h3 := hI.2.1.1
  have h34 := hI.2.2.2.2.2.2.1.1
  obtain ⟨-, ⟨sa, hsa, esa⟩, -⟩ := th_nk hI hi
  refine pm_met (by decide) (Nat.le_of_ble_eq_true rfl) ?_
  refine pm_aload_n dX2_worthAbove_0 rfl rfl ?_
  refine pm_get (fn_RX2_28 _) dX2_worthAbove_1 (show pm_get? _ 2 i = _ from hwi) rfl ?_
  refine pm_istore (lv2 := [(4, _), (0, _), (1, _), (2, _), (3, _)]) dX2_worthAbove_4 (Nat.le_of_ble_eq_true rfl) rfl ?_
  refine pm_iconst (v := 0) dX2_worthAbove_6 (by decide) ?_
  refine pm_istore (lv2 := [(5, _), (4, _), (0, _), (1, _), (2, _), (3, _)]) dX2_worthAbove_7 (Nat.le_of_ble_eq_true rfl) rfl ?_
  refine pm_lconst (v := 1) dX2_worthAbove_9 (by decide) ?_
  refine pm_lstore (lv2 := [(6, _), (5, _), (4, _), (0, _), (1, _), (2, _), (3, _)]) dX2_worthAbove_10 (Nat.le_of_ble_eq_true rfl) rfl ?_
  refine pm_iconst (v := 0) dX2_worthAbove_12 (by decide) ?_
  refine pm_istore (lv2 := [(8, _), (6, _), (5, _), (4, _), (0, _), (1, _), (2, _), (3, _)]) dX2_worthAbove_13 (Nat.le_of_ble_eq_true rfl) rfl ?_
  suffices H : ∀ k, k ≤ S 34 → ∀ c ch fo, th_ws A (S 6) i n k = (c, ch, fo) → pm_W l G m_X2_worthAbove ad 15 [(8, .int (nI k)), (6, .long (lN ch)), (5, .int (nI fo)), (4, .int c), (0, .ref (ad 6 0)), (1, .ref (ad 2 i)), (2, .int (nI n)), (3, .int (nI (S 6)))] [] (th_cw ad S A X Y F Hd Cs m) 0 0 Q from H 0 (Nat.zero_le _) (A 11 i) 1 0 rfl
  refine th_loop _ ?_
  intro k hk k2 c ch fo hp
  obtain ⟨-, -, -, -, hfo⟩ := th_ws_bd hI (n := n) hi k hk
  rw [hp] at hfo
  have hfo : fo ≤ k := hfo
  refine pm_iload dX2_worthAbove_15 rfl ?_
  refine pm_aload_n dX2_worthAbove_17 rfl rfl ?_
  refine pm_get fl_RX2_24_2 dX2_worthAbove_18 rfl rfl ?_
  refine pm_icmp_ge (tgt := 98) dX2_worthAbove_21 (by decide) (fun c_21 => ?_) (fun c_21 => ?_)
  · refine pm_iload dX2_worthAbove_98 rfl ?_
    refine pm_i2l dX2_worthAbove_100 ?_
    refine pm_lload dX2_worthAbove_101 rfl ?_
    refine pm_lmul dX2_worthAbove_103 ?_
    refine pm_lret dX2_worthAbove_104 rfl rfl rfl ?_
    have he : k = S 34 := by
      rw [nI_leI (by omega) (by omega)] at c_21
      omega
    subst he
    refine th_rl ?_ hQ
    rw [th_wl, hp]
  · have hlt : k < S 34 := by
      rw [nI_leI (by omega) (by omega)] at c_21
      omega
    obtain ⟨sc0, cc, t, -, hcc, ht, e10, e2, e3⟩ := hI.2.2.2.2.2.2.1.2 k hlt
    obtain ⟨sc, hsc, e1, ecs⟩ := hJ.2.2 k hlt
    refine pm_aload_n dX2_worthAbove_24 rfl rfl ?_
    refine pm_get fl_RX2_11_2 dX2_worthAbove_25 rfl rfl ?_
    refine pm_iload dX2_worthAbove_28 rfl ?_
    refine pm_aaldS dX2_worthAbove_30 rfl (th_in (by omega) (by decide)) ?_
    rw [th_cl (by omega), ecs]
    show pm_W _ _ _ _ _ _ (.ref (ad 1 sc) :: _) _ _ _ _
    refine pm_ifnull dX2_worthAbove_31 ?_
    refine pm_iload_n dX2_worthAbove_34 rfl rfl ?_
    refine pm_iload dX2_worthAbove_35 rfl ?_
    refine pm_ishr dX2_worthAbove_37 ?_
    refine pm_iconst (v := 1) dX2_worthAbove_38 (by decide) ?_
    refine pm_iand dX2_worthAbove_39 ?_
    rw [th_bit (by omega) (by omega)]
    refine pm_if_eq (tgt := 92) dX2_worthAbove_40 (by decide) (fun c_40 => ?_) (fun c_40 => ?_)
    · refine pm_iinc (lv2 := [(8, _), (6, _), (5, _), (4, _), (0, _), (1, _), (2, _), (3, _)]) dX2_worthAbove_92 rfl (nI_1 k) (Nat.le_of_ble_eq_true rfl) rfl ?_
      refine pm_goto (tgt := 15) dX2_worthAbove_95 (by decide) ?_
      refine pm_pick [0, 1, 2, 3, 4, 5, 6, 7] rfl ?_
      have hbit : ¬ n / 2 ^ k % 2 = 1 := fun e => absurd c_40 (by rw [e]; decide)
      exact k2 hlt c ch fo ((th_ws0 hbit).trans hp)
    · have hbit : n / 2 ^ k % 2 = 1 := by
        have h2 : ¬ n / 2 ^ k % 2 = 0 := fun e => c_40 (by rw [e]; rfl)
        omega
      refine pm_lload dX2_worthAbove_43 rfl ?_
      refine pm_iconst (v := 0) dX2_worthAbove_45 (by decide) ?_
      refine pm_aload_n dX2_worthAbove_46 rfl rfl ?_
      refine pm_get fl_RX2_21_2 dX2_worthAbove_47 rfl rfl ?_
      refine pm_iload dX2_worthAbove_50 rfl ?_
      refine pm_iald dX2_worthAbove_52 rfl (th_in (by omega) (by decide)) ?_
      rw [th_cl (by omega), e3]
      refine pm_iload dX2_worthAbove_53 rfl ?_
      refine pm_isub dX2_worthAbove_55 ?_
      refine pm_max kw_828 kw_369 kw_54 kw_370 (Nat.le_of_ble_eq_true rfl) (Nat.le_of_ble_eq_true rfl) (Nat.le_of_ble_eq_true rfl) (Nat.le_of_ble_eq_true rfl) dX2_worthAbove_56 ?_
      refine pm_i2l dX2_worthAbove_59 ?_
      rw [th_ten2 ht (show fo ≤ 8 by omega)]
      refine pm_lmul dX2_worthAbove_60 ?_
      rw [lN_mul]
      refine pm_lstore (lv2 := [(6, _), (8, _), (5, _), (4, _), (0, _), (1, _), (2, _), (3, _)]) dX2_worthAbove_61 (Nat.le_of_ble_eq_true rfl) rfl ?_
      refine pm_aload_n dX2_worthAbove_63 rfl rfl ?_
      refine pm_get (fn_RX2_39 _) dX2_worthAbove_64 (show pm_get? _ 2 i = _ from hwi) rfl ?_
      refine pm_aload_n dX2_worthAbove_67 rfl rfl ?_
      refine pm_get fl_RX2_11_2 dX2_worthAbove_68 rfl rfl ?_
      refine pm_iload dX2_worthAbove_71 rfl ?_
      refine pm_aaldS dX2_worthAbove_73 rfl (th_in (by omega) (by decide)) ?_
      rw [th_cl (by omega), ecs]
      show pm_W _ _ _ _ _ _ (.ref (ad 1 sc) :: _) _ _ _ _
      refine pm_iload dX2_worthAbove_74 rfl ?_
      refine pm_aload_n dX2_worthAbove_76 rfl rfl ?_
      refine pm_get fl_RX2_17_2 dX2_worthAbove_77 rfl rfl ?_
      refine pm_iload dX2_worthAbove_80 rfl ?_
      refine pm_iald dX2_worthAbove_82 rfl (th_in (by omega) (by decide)) ?_
      refine pm_iload_n dX2_worthAbove_83 rfl rfl ?_
      rw [th_cl (by omega), esa, th_n_nI (by omega)]
      refine pm_callV (M2 := m_X10_countOver) (As := [_, _, _, _]) ok_X10_countOver (ci := 10) rfl kw_829 kw_613 kw_614 dX2_worthAbove_84 (show pm_get? _ 1 sa = some (.inr (10, th_sf A sa)) from th_sc_get hsa) rfl rfl (Nat.le_of_ble_eq_true rfl) ⟨⟨Nat.le_of_ble_eq_true rfl, Nat.le_of_ble_eq_true rfl⟩, Nat.le_of_ble_eq_true rfl, Nat.le_of_ble_eq_true rfl⟩ ?_
      refine c_X10_countOver hI.2.1 hsa hsc hI.2.2.2.1 (th_sc_get hsa) (th_sc_get hsc) ?_
      refine pm_istore (lv2 := [(4, _), (6, _), (8, _), (5, _), (0, _), (1, _), (2, _), (3, _)]) dX2_worthAbove_87 (Nat.le_of_ble_eq_true rfl) rfl ?_
      refine pm_iinc (lv2 := [(5, _), (4, _), (6, _), (8, _), (0, _), (1, _), (2, _), (3, _)]) dX2_worthAbove_89 rfl (nI_1 fo) (Nat.le_of_ble_eq_true rfl) rfl ?_
      refine pm_iinc (lv2 := [(8, _), (5, _), (4, _), (6, _), (0, _), (1, _), (2, _), (3, _)]) dX2_worthAbove_92 rfl (nI_1 k) (Nat.le_of_ble_eq_true rfl) rfl ?_
      refine pm_goto (tgt := 15) dX2_worthAbove_95 (by decide) ?_
      refine pm_pick [0, 3, 1, 2, 4, 5, 6, 7] rfl ?_
      refine k2 hlt _ (ch * (t - fo)) (fo + 1) (th_ws1 hbit hp esa e1 e3 (by omega) (by omega) ht)

