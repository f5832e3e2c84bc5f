theorem th_bits_lt {n m : Nat} (h : n < 2 ^ m) : ∀ k, th_bits n k ≤ m ∧ th_bits n k ≤ k := by
  intro k
  induction k with
  | zero => exact ⟨Nat.zero_le _, Nat.le_refl _⟩
  | succ k ih =>
    unfold th_bits
    by_cases hk : k < m
    · omega
    · have h2 : n / 2 ^ k = 0 := Nat.div_eq_of_lt (Nat.lt_of_lt_of_le h (Nat.pow_le_pow_right (by decide) (by omega)))
      rw [h2]
      omega
def th_lc (A : Nat → Nat → Int32) (t : Nat → Int32) : Nat → Nat
  | 0 => 0
  | a + 1 => th_lc A t a + (if ¬ A 14 a = -1 ∧ ¬ A 14 a = t a then 1 else 0)
theorem th_lc_le (A : Nat → Nat → Int32) (t : Nat → Int32) : ∀ k, th_lc A t k ≤ k := by
  intro k
  induction k with
  | zero => exact Nat.le_refl 0
  | succ k ih =>
    unfold th_lc
    by_cases h : ¬ A 14 k = -1 ∧ ¬ A 14 k = t k
    · rw [if_pos h]; omega
    · rw [if_neg h]; omega
theorem th_lc_cg (A : Nat → Nat → Int32) {t t' : Nat → Int32} : ∀ k, (∀ q, q < k → t q = t' q) → th_lc A t k = th_lc A t' k := by
  intro k
  induction k with
  | zero => intro _; rfl
  | succ k ih =>
    intro h
    unfold th_lc
    rw [ih (fun q hq => h q (by omega)), h k (by omega)]
def th_ok? (S : Nat → Nat) (A : Nat → Nat → Int32) (n : Nat) : Bool := (th_lb A (S 6) n (S 26)).1
def th_tt (S : Nat → Nat) (A : Nat → Nat → Int32) (n : Nat) : Nat → Int32 := (th_lb A (S 6) n (S 26)).2.2
def th_ls (S : Nat → Nat) (A : Nat → Nat → Int32) (n : Nat) : Nat := (S 26 - th_bits n 10) + th_lc A (th_tt S A n) (S 11)
theorem th_ls_le {S : Nat → Nat} {A : Nat → Nat → Int32} (hI : th_I S A) (n : Nat) : th_ls S A n ≤ 18 := by
  have h8 := hI.2.2.2.2.1.1
  have h10 := hI.2.2.2.2.2.1.1
  have := th_lc_le A (th_tt S A n) (S 11)
  unfold th_ls
  omega
set_option maxHeartbeats 600000 in
set_option maxRecDepth 100000 in
theorem c_X12_liesOf {l : Launch} {G : pm_G} {ad : Nat → Nat → Nat} {a0 a3 a4 a5 a6 a7 : List pm_A} {a1 a2 : Nat → Option pm_A} {S : Nat → Nat} {A : Nat → Nat → Int32} {s : Nat → Int32} {B : Nat → Nat → Int32} {hs : Int64} {Q : pm_T} {n : Nat} {t : Nat → Int32} (hI : th_I S A) (hn : n < 2 ^ S 26) (ht : ∀ q, q < S 11 → t q = th_tt S A n q) (hQ : Q ad (some (.int (nI (th_ls S A n)))) (a0, a1, a2, a3, a4, a5, a6, a7, th_mp ad S A s (va_up B 17 t) hs)) : pm_C l G m_X12_liesOf [.ref (ad 8 0), .int (nI n)] ad (a0, a1, a2, a3, a4, a5, a6, a7, th_mp ad S A s (va_up B 17 t) hs) Q := by
  have h8 := hI.2.2.2.2.1.1
  have h10 := hI.2.2.2.2.2.1.1
  have hp2 := th_isp (n := 0) h10
  have hb := th_bits_lt hn 10
  refine pm_met (by decide) (Nat.le_of_ble_eq_true rfl) ?_
  refine pm_aload_n dX12_liesOf_0 rfl rfl ?_
  refine pm_get fl_RX12_193_12 dX12_liesOf_1 rfl rfl ?_
  refine pm_iload_n dX12_liesOf_4 rfl rfl ?_
  refine pm_callS (M2 := m_X12_bitsOf) (As := [_]) ok_X12_bitsOf kw_1240 kw_1241 dX12_liesOf_5 rfl rfl (Nat.le_of_ble_eq_true rfl) ⟨⟨Nat.le_of_ble_eq_true rfl, Nat.le_of_ble_eq_true rfl⟩, Nat.le_of_ble_eq_true rfl, Nat.le_of_ble_eq_true rfl⟩ ?_
  refine c_X12_bitsOf (by omega) ?_
  refine pm_isub dX12_liesOf_8 ?_
  rw [pk_sub hb.1]
  refine pm_istore_n (lv2 := [(2, _), (0, _), (1, _)]) dX12_liesOf_9 rfl (Nat.le_of_ble_eq_true rfl) rfl ?_
  refine pm_iconst (v := 0) dX12_liesOf_10 (by decide) ?_
  refine pm_istore_n (lv2 := [(3, _), (2, _), (0, _), (1, _)]) dX12_liesOf_11 rfl (Nat.le_of_ble_eq_true rfl) rfl ?_
  suffices H : ∀ a, a ≤ S 11 → pm_W l G m_X12_liesOf ad 12 [(3, .int (nI a)), (2, .int (nI ((S 26 - th_bits n 10) + th_lc A t a))), (0, .ref (ad 8 0)), (1, .int (nI n))] [] (a0, a1, a2, a3, a4, a5, a6, a7, th_mp ad S A s (va_up B 17 t) hs) 0 0 Q from H 0 (Nat.zero_le _)
  refine th_loop _ ?_
  intro a ha k
  refine pm_iload_n dX12_liesOf_12 rfl rfl ?_
  refine pm_aload_n dX12_liesOf_13 rfl rfl ?_
  refine pm_get fl_RX12_137_12 dX12_liesOf_14 rfl rfl ?_
  refine pm_icmp_ge (tgt := 59) dX12_liesOf_17 (by decide) (fun c_17 => ?_) (fun c_17 => ?_)
  · refine pm_iload_n dX12_liesOf_59 rfl rfl ?_
    refine pm_iret dX12_liesOf_60 rfl rfl rfl ?_
    have he : a = S 11 := by
      rw [nI_leI (by omega) (by omega)] at c_17
      omega
    refine th_r ?_ hQ
    rw [th_ls, he, th_lc_cg A (S 11) ht]
  · have hlt : a < S 11 := by
      rw [nI_leI (by omega) (by omega)] at c_17
      omega
    refine pm_iload_n dX12_liesOf_20 rfl rfl ?_
    refine pm_aload_n dX12_liesOf_21 rfl rfl ?_
    refine pm_get fl_RX12_50_12 dX12_liesOf_22 rfl rfl ?_
    refine pm_iload_n dX12_liesOf_25 rfl rfl ?_
    refine pm_iald dX12_liesOf_26 rfl (th_in (by omega) (by decide)) ?_
    rw [th_cl (by omega)]
    refine pm_iconst (v := (-1)) dX12_liesOf_27 (by decide) ?_
    refine pm_icmp_eq (tgt := 50) dX12_liesOf_28 (by decide) (fun c_28 => ?_) (fun c_28 => ?_)
    · refine pm_iconst (v := 0) dX12_liesOf_50 (by decide) ?_
      refine pm_iadd dX12_liesOf_51 ?_
      rw [Int32.add_zero]
      refine pm_istore_n (lv2 := [(2, _), (3, _), (0, _), (1, _)]) dX12_liesOf_52 rfl (Nat.le_of_ble_eq_true rfl) rfl ?_
      refine pm_iinc (lv2 := [(3, _), (2, _), (0, _), (1, _)]) dX12_liesOf_53 rfl (nI_1 a) (Nat.le_of_ble_eq_true rfl) rfl ?_
      refine pm_goto (tgt := 12) dX12_liesOf_56 (by decide) ?_
      refine pm_pick [0, 1, 2, 3] rfl ?_
      have k2 := k hlt
      rw [th_lc, if_neg (fun z => z.1 c_28), Nat.add_zero] at k2
      exact k2
    · refine pm_aload_n dX12_liesOf_31 rfl rfl ?_
      refine pm_get fl_RX12_50_12 dX12_liesOf_32 rfl rfl ?_
      refine pm_iload_n dX12_liesOf_35 rfl rfl ?_
      refine pm_iald dX12_liesOf_36 rfl (th_in (by omega) (by decide)) ?_
      rw [th_cl (by omega)]
      refine pm_aload_n dX12_liesOf_37 rfl rfl ?_
      refine pm_get fl_RX12_59_12 dX12_liesOf_38 rfl rfl ?_
      refine pm_iload_n dX12_liesOf_41 rfl rfl ?_
      refine pm_iald dX12_liesOf_42 rfl (th_in (by omega) (by decide)) ?_
      rw [th_cl (by omega)]
      refine pm_icmp_eq (tgt := 50) dX12_liesOf_43 (by decide) (fun c_43 => ?_) (fun c_43 => ?_)
      · refine pm_iconst (v := 0) dX12_liesOf_50 (by decide) ?_
        refine pm_iadd dX12_liesOf_51 ?_
        rw [Int32.add_zero]
        refine pm_istore_n (lv2 := [(2, _), (3, _), (0, _), (1, _)]) dX12_liesOf_52 rfl (Nat.le_of_ble_eq_true rfl) rfl ?_
        refine pm_iinc (lv2 := [(3, _), (2, _), (0, _), (1, _)]) dX12_liesOf_53 rfl (nI_1 a) (Nat.le_of_ble_eq_true rfl) rfl ?_
        refine pm_goto (tgt := 12) dX12_liesOf_56 (by decide) ?_
        refine pm_pick [0, 1, 2, 3] rfl ?_
        have k2 := k hlt
        rw [th_lc, if_neg (fun z => z.2 c_43), Nat.add_zero] at k2
        exact k2
      · refine pm_iconst (v := 1) dX12_liesOf_46 (by decide) ?_
        refine pm_goto (tgt := 51) dX12_liesOf_47 (by decide) ?_
        refine pm_iadd dX12_liesOf_51 ?_
        rw [nI_1]
        refine pm_istore_n (lv2 := [(2, _), (3, _), (0, _), (1, _)]) dX12_liesOf_52 rfl (Nat.le_of_ble_eq_true rfl) rfl ?_
        refine pm_iinc (lv2 := [(3, _), (2, _), (0, _), (1, _)]) dX12_liesOf_53 rfl (nI_1 a) (Nat.le_of_ble_eq_true rfl) rfl ?_
        refine pm_goto (tgt := 12) dX12_liesOf_56 (by decide) ?_
        refine pm_pick [0, 1, 2, 3] rfl ?_
        have k2 := k hlt
        rw [th_lc, if_pos ⟨c_28, c_43⟩, ← Nat.add_assoc] at k2
        exact k2

set_option maxHeartbeats 600000 in
set_option maxRecDepth 100000 in
theorem c_X3_liesOf {l : Launch} {G : pm_G} {ad : Nat → Nat → Nat} {S : Nat → Nat} {A : Nat → Nat → Int32} {X : Nat → Int32} {Y : Nat → Nat → Int32} {F : Nat → Int64} {Hd Cs : Nat → Option Nat} {m : List pm_A} {Q : pm_T} {n : Nat} {t : Nat → Int32} (hI : th_I S A) (hn : n < 2 ^ S 26) (ht : ∀ q, q < S 11 → t q = th_tt S A n q) (hQ : Q ad (some (.int (nI (th_ls S A n)))) (th_cw ad S A X (va_up Y 4 t) F Hd Cs m)) : pm_C l G m_X3_liesOf [.ref (ad 4 0), .int (nI n), .ref (ad 0 2)] ad (th_cw ad S A X (va_up Y 4 t) F Hd Cs m) Q := by
  have h8 := hI.2.2.2.2.1.1
  have h10 := hI.2.2.2.2.2.1.1
  have hp2 := th_isp (n := 0) h10
  have hb := th_bits_lt hn 10
  refine pm_met (by decide) (Nat.le_of_ble_eq_true rfl) ?_
  refine pm_aload_n dX3_liesOf_0 rfl rfl ?_
  refine pm_get fl_RX3_24_3 dX3_liesOf_1 rfl rfl ?_
  refine pm_iload_n dX3_liesOf_4 rfl rfl ?_
  refine pm_callS (M2 := m_J6_bitCount_0f7a4) (As := [_]) ok_J6_bitCount_0f7a4 kw_700 kw_701 dX3_liesOf_5 rfl rfl (Nat.le_of_ble_eq_true rfl) ⟨⟨Nat.le_of_ble_eq_true rfl, Nat.le_of_ble_eq_true rfl⟩, Nat.le_of_ble_eq_true rfl, Nat.le_of_ble_eq_true rfl⟩ ?_
  refine c_bitCount (by omega) ?_
  refine pm_isub dX3_liesOf_8 ?_
  rw [pk_sub hb.1]
  refine pm_istore_n (lv2 := [(3, _), (0, _), (1, _), (2, _)]) dX3_liesOf_9 rfl (Nat.le_of_ble_eq_true rfl) rfl ?_
  refine pm_iconst (v := 0) dX3_liesOf_10 (by decide) ?_
  refine pm_istore (lv2 := [(4, _), (3, _), (0, _), (1, _), (2, _)]) dX3_liesOf_11 (Nat.le_of_ble_eq_true rfl) rfl ?_
  suffices H : ∀ i, i ≤ S 11 → pm_W l G m_X3_liesOf ad 13 [(4, .int (nI i)), (3, .int (nI ((S 26 - th_bits n 10) + th_lc A t i))), (0, .ref (ad 4 0)), (1, .int (nI n)), (2, .ref (ad 0 2))] [] (th_cw ad S A X (va_up Y 4 t) F Hd Cs m) 0 0 Q from H 0 (Nat.zero_le _)
  refine th_loop _ ?_
  intro i hi k
  refine pm_iload dX3_liesOf_13 rfl ?_
  refine pm_aload_n dX3_liesOf_15 rfl rfl ?_
  refine pm_alen (by decide) dX3_liesOf_16 rfl ?_
  show pm_W _ _ _ _ _ _ (.int (nI 8) :: _) _ _ _ _
  refine pm_icmp_ge (tgt := 64) dX3_liesOf_17 (by decide) (fun c_17 => ?_) (fun c_17 => ?_)
  · refine pm_iload_n dX3_liesOf_64 rfl rfl ?_
    refine pm_iret dX3_liesOf_65 rfl rfl rfl ?_
    rw [nI_leI (by decide) (by omega)] at c_17
    have he : i = S 11 := by omega
    refine th_r ?_ hQ
    rw [th_ls, he, th_lc_cg A (S 11) ht]
  · have hi8 : i < 8 := by
      rw [nI_leI (by decide) (by omega)] at c_17
      omega
    refine pm_aload_n dX3_liesOf_20 rfl rfl ?_
    refine pm_iload dX3_liesOf_21 rfl ?_
    refine pm_aaldN dX3_liesOf_23 rfl (th_in hi8 (by decide)) ?_
    rw [th_cl (by omega)]
    unfold th_rs
    by_cases hlt : i < S 11
    · rw [if_pos hlt]
      show pm_W _ _ _ _ _ _ (.ref (ad 2 i) :: _) _ _ _ _
      refine pm_ifnull dX3_liesOf_24 ?_
      refine pm_aload_n dX3_liesOf_27 rfl rfl ?_
      refine pm_iload dX3_liesOf_28 rfl ?_
      refine pm_aaldN dX3_liesOf_30 rfl (th_in hi8 (by decide)) ?_
      rw [th_cl (by omega)]
      unfold th_rs
      rw [if_pos hlt]
      show pm_W _ _ _ _ _ _ (.ref (ad 2 i) :: _) _ _ _ _
      refine pm_get (fn_RX3_59 _) dX3_liesOf_31 (show pm_get? _ 2 i = _ from th_nt_get hlt) rfl ?_
      refine pm_iconst (v := (-1)) dX3_liesOf_34 (by decide) ?_
      refine pm_icmp_eq (tgt := 58) dX3_liesOf_35 (by decide) (fun c_35 => ?_) (fun c_35 => ?_)
      · refine pm_iinc (lv2 := [(4, _), (3, _), (0, _), (1, _), (2, _)]) dX3_liesOf_58 rfl (nI_1 i) (Nat.le_of_ble_eq_true rfl) rfl ?_
        refine pm_goto (tgt := 13) dX3_liesOf_61 (by decide) ?_
        refine pm_pick [0, 1, 2, 3, 4] rfl ?_
        have k2 := k hlt
        rw [th_lc, if_neg (fun z => z.1 c_35), Nat.add_zero] at k2
        exact k2
      · refine pm_aload_n dX3_liesOf_38 rfl rfl ?_
        refine pm_iload dX3_liesOf_39 rfl ?_
        refine pm_aaldN dX3_liesOf_41 rfl (th_in hi8 (by decide)) ?_
        rw [th_cl (by omega)]
        unfold th_rs
        rw [if_pos hlt]
        show pm_W _ _ _ _ _ _ (.ref (ad 2 i) :: _) _ _ _ _
        refine pm_get (fn_RX3_59 _) dX3_liesOf_42 (show pm_get? _ 2 i = _ from th_nt_get hlt) rfl ?_
        refine pm_aload_n dX3_liesOf_45 rfl rfl ?_
        refine pm_get fl_RX3_18_3 dX3_liesOf_46 rfl rfl ?_
        refine pm_iload dX3_liesOf_49 rfl ?_
        refine pm_iald dX3_liesOf_51 rfl (th_in hi8 (by decide)) ?_
        rw [th_cl (by omega)]
        refine pm_icmp_eq (tgt := 58) dX3_liesOf_52 (by decide) (fun c_52 => ?_) (fun c_52 => ?_)
        · refine pm_iinc (lv2 := [(4, _), (3, _), (0, _), (1, _), (2, _)]) dX3_liesOf_58 rfl (nI_1 i) (Nat.le_of_ble_eq_true rfl) rfl ?_
          refine pm_goto (tgt := 13) dX3_liesOf_61 (by decide) ?_
          refine pm_pick [0, 1, 2, 3, 4] rfl ?_
          have k2 := k hlt
          rw [th_lc, if_neg (fun z => z.2 c_52), Nat.add_zero] at k2
          exact k2
        · refine pm_iinc (lv2 := [(3, _), (4, _), (0, _), (1, _), (2, _)]) dX3_liesOf_55 rfl (nI_1 _) (Nat.le_of_ble_eq_true rfl) rfl ?_
          refine pm_iinc (lv2 := [(4, _), (3, _), (0, _), (1, _), (2, _)]) dX3_liesOf_58 rfl (nI_1 i) (Nat.le_of_ble_eq_true rfl) rfl ?_
          refine pm_goto (tgt := 13) dX3_liesOf_61 (by decide) ?_
          refine pm_pick [0, 1, 2, 3, 4] rfl ?_
          have k2 := k hlt
          rw [th_lc, if_pos ⟨c_35, c_52⟩, ← Nat.add_assoc] at k2
          exact k2
    · rw [if_neg hlt]
      show pm_W _ _ _ _ _ _ (.null :: _) _ _ _ _
      refine pm_ifnullN (tgt := 64) dX3_liesOf_24 (by decide) ?_
      refine pm_iload_n dX3_liesOf_64 rfl rfl ?_
      refine pm_iret dX3_liesOf_65 rfl rfl rfl ?_
      have he : i = S 11 := by omega
      refine th_r ?_ hQ
      rw [th_ls, he, th_lc_cg A (S 11) ht]

def th_fw (S : Nat → Nat) (A : Nat → Nat → Int32) : Nat → Option (Nat × Nat)
  | 0 => none
  | n + 1 => if th_ok? S A n = true then (match th_fw S A n with
    | none => some (th_ls S A n, n)
    | some p => if th_ls S A n < p.1 ∨ (th_ls S A n = p.1 ∧ th_bits p.2 10 < th_bits n 10) then some (th_ls S A n, n) else some p) else th_fw S A n
def th_e1 (d : Int32) : Option (Nat × Nat) → Int32
  | none => d
  | some p => nI p.1
def th_e2 (d : Int32) : Option (Nat × Nat) → Int32
  | none => d
  | some p => nI p.2
def th_fin (n : Nat) : Option (Nat × Nat) → Prop
  | none => True
  | some p => p.1 ≤ 18 ∧ p.2 < n
theorem th_fw0 {S : Nat → Nat} {A : Nat → Nat → Int32} {n : Nat} (h : th_ok? S A n = false) : th_fw S A (n + 1) = th_fw S A n := by
  rw [th_fw, if_neg (by rw [h]; decide)]
theorem th_fwn {S : Nat → Nat} {A : Nat → Nat → Int32} {n : Nat} (h : th_ok? S A n = true) (hp : th_fw S A n = none) : th_fw S A (n + 1) = some (th_ls S A n, n) := by
  rw [th_fw, if_pos h, hp]
theorem th_fwb {S : Nat → Nat} {A : Nat → Nat → Int32} {n a b : Nat} (h : th_ok? S A n = true) (hp : th_fw S A n = some (a, b)) (hb : th_ls S A n < a ∨ (th_ls S A n = a ∧ th_bits b 10 < th_bits n 10)) : th_fw S A (n + 1) = some (th_ls S A n, n) := by
  rw [th_fw, if_pos h, hp]
  exact if_pos hb
theorem th_fwk {S : Nat → Nat} {A : Nat → Nat → Int32} {n a b : Nat} (h : th_ok? S A n = true) (hp : th_fw S A n = some (a, b)) (hb : ¬ (th_ls S A n < a ∨ (th_ls S A n = a ∧ th_bits b 10 < th_bits n 10))) : th_fw S A (n + 1) = some (a, b) := by
  rw [th_fw, if_pos h, hp]
  exact if_neg hb
theorem th_fwi {S : Nat → Nat} {A : Nat → Nat → Int32} (hI : th_I S A) : ∀ n, th_fin n (th_fw S A n) := by
  intro n
  induction n with
  | zero => exact trivial
  | succ n ih =>
    have hl := th_ls_le hI n
    cases hk : th_ok? S A n with
    | false =>
      rw [th_fw0 hk]
      cases hp : th_fw S A n with
      | none => exact trivial
      | some p => rw [hp] at ih; exact ⟨ih.1, Nat.lt_succ_of_lt ih.2⟩
    | true =>
      cases hp : th_fw S A n with
      | none => rw [th_fwn hk hp]; exact ⟨hl, Nat.lt_succ_self n⟩
      | some p =>
        obtain ⟨a, b⟩ := p
        rw [hp] at ih
        by_cases hb : th_ls S A n < a ∨ (th_ls S A n = a ∧ th_bits b 10 < th_bits n 10)
        · rw [th_fwb hk hp hb]; exact ⟨hl, Nat.lt_succ_self n⟩
        · rw [th_fwk hk hp hb]; exact ⟨ih.1, Nat.lt_succ_of_lt ih.2⟩
theorem th_lb_0 (A : Nat → Nat → Int32) (how : Nat) : ∀ f, (th_lb A how 0 f).1 = true := by
  intro f
  induction f with
  | zero => rfl
  | succ f ih =>
    rw [th_lb0 (by simp)]
    exact ih
theorem th_fws (S : Nat → Nat) (A : Nat → Nat → Int32) : ∀ n, ∃ p, th_fw S A (n + 1) = some p := by
  intro n
  induction n with
  | zero => exact ⟨_, th_fwn (th_lb_0 A (S 6) (S 26)) rfl⟩
  | succ n ih =>
    obtain ⟨⟨a, b⟩, hp⟩ := ih
    cases hk : th_ok? S A (n + 1) with
    | false => exact ⟨_, (th_fw0 hk).trans hp⟩
    | true =>
      by_cases hb : th_ls S A (n + 1) < a ∨ (th_ls S A (n + 1) = a ∧ th_bits b 10 < th_bits (n + 1) 10)
      · exact ⟨_, th_fwb hk hp hb⟩
      · exact ⟨_, th_fwk hk hp hb⟩
