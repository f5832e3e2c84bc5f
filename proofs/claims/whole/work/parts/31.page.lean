def th_aw (n : Nat) : Nat := if n = 1 then 2 else if n = 2 then 1 else n
def th_RD (f : Nat → Int32) (m : Nat) (y : Nat → Int32) : Prop := y 2 = th_cnt f (-120) m ∧ y 3 = th_cnt f (-121) m ∧ y 4 = th_cnt f (-109) m ∧ y 5 = th_cnt f (-108) m ∧ y 6 = th_cnt f (-104) m ∧ y 7 = th_alw f m
def th_RC (p : th_P) (X : Nat → Int32) (y : Nat → Int32) : Prop := X 0 = nI (th_aw p.1) ∧ X 1 = nI p.2.1 ∧ (p.1 = 2 → X 2 = p.2.2.1 (p.2.1 - 1)) ∧ th_RD p.2.2.1 p.2.1 y ∧ (p.1 = 4 → y 1 = p.2.2.2)
theorem th_cnt_cg {f g : Nat → Int32} {c : Int32} : ∀ n, (∀ k, k < n → f k = g k) → th_cnt f c n = th_cnt g c n := by
  intro n
  induction n with
  | zero => intro _; rfl
  | succ n ih => intro h; rw [th_cnt, th_cnt, ih (fun k hk => h k (by omega)), h n (by omega)]
theorem th_alw_cg {f g : Nat → Int32} : ∀ n, (∀ k, k < n → f k = g k) → th_alw f n = th_alw g n := by
  intro n
  induction n with
  | zero => intro _; rfl
  | succ n ih => intro h; rw [th_alw, th_alw, ih (fun k hk => h k (by omega)), h n (by omega)]
theorem th_un {f : Nat → Int32} {m : Nat} {v : Int32} : ∀ k, k < m → upd f m v k = f k := fun k hk => if_neg (by omega)
theorem th_cnt_u {f : Nat → Int32} {m : Nat} {v c : Int32} : th_cnt (upd f m v) c (m + 1) = th_cnt f c m + (if v = c then 1 else 0) := by
  rw [th_cnt, th_cnt_cg m th_un, show upd f m v m = v from if_pos rfl]
theorem th_alw_u {f : Nat → Int32} {m : Nat} {v : Int32} : th_alw (upd f m v) (m + 1) = th_alw f m + (if 0 ≤ v then v else 0) := by
  rw [th_alw, th_alw_cg m th_un, show upd f m v m = v from if_pos rfl]
theorem th_cnt_z {f : Nat → Int32} {m d : Nat} {v c : Int32} (hv : v = nI d) (hd : d < 2 ^ 31) (hc : c < 0) : th_cnt (upd f m v) c (m + 1) = th_cnt f c m := by
  rw [th_cnt_u, if_neg (fun e => absurd hc (by rw [← e, hv]; exact nI_pos hd)), Int32.add_zero]
theorem th_alw_z {f : Nat → Int32} {m d : Nat} {v : Int32} (hv : v = nI d) (hd : d < 2 ^ 31) : th_alw (upd f m v) (m + 1) = th_alw f m + v := by
  rw [th_alw_u, if_pos (by rw [hv]; exact Int32.not_lt.mp (nI_pos hd))]
theorem th_RD_num {f y : Nat → Int32} {m d : Nat} {v : Int32} (h : th_RD f m y) (hv : v = nI d) (hd : d < 2 ^ 31) : th_RD (upd f m v) (m + 1) (upd y 7 (y 7 + v)) := by
  obtain ⟨h2, h3, h4, h5, h6, h7⟩ := h
  refine ⟨?_, ?_, ?_, ?_, ?_, ?_⟩
  · rw [th_cnt_z hv hd (by decide)]; exact h2
  · rw [th_cnt_z hv hd (by decide)]; exact h3
  · rw [th_cnt_z hv hd (by decide)]; exact h4
  · rw [th_cnt_z hv hd (by decide)]; exact h5
  · rw [th_cnt_z hv hd (by decide)]; exact h6
  · rw [th_alw_z hv hd, ← h7]; exact if_pos rfl
theorem th_RD_120 {f y : Nat → Int32} {m : Nat} (h : th_RD f m y) : th_RD (upd f m (-120)) (m + 1) (upd y 2 (y 2 + 1)) := by
  obtain ⟨h2, h3, h4, h5, h6, h7⟩ := h
  refine ⟨?_, ?_, ?_, ?_, ?_, ?_⟩
  · rw [th_cnt_u, if_pos rfl, ← h2]; exact if_pos rfl
  · rw [th_cnt_u, if_neg (by decide), Int32.add_zero]; exact h3
  · rw [th_cnt_u, if_neg (by decide), Int32.add_zero]; exact h4
  · rw [th_cnt_u, if_neg (by decide), Int32.add_zero]; exact h5
  · rw [th_cnt_u, if_neg (by decide), Int32.add_zero]; exact h6
  · rw [th_alw_u, if_neg (by decide), Int32.add_zero]; exact h7
theorem th_RD_121 {f y : Nat → Int32} {m : Nat} (h : th_RD f m y) : th_RD (upd f m (-121)) (m + 1) (upd y 3 (y 3 + 1)) := by
  obtain ⟨h2, h3, h4, h5, h6, h7⟩ := h
  refine ⟨?_, ?_, ?_, ?_, ?_, ?_⟩
  · rw [th_cnt_u, if_neg (by decide), Int32.add_zero]; exact h2
  · rw [th_cnt_u, if_pos rfl, ← h3]; exact if_pos rfl
  · rw [th_cnt_u, if_neg (by decide), Int32.add_zero]; exact h4
  · rw [th_cnt_u, if_neg (by decide), Int32.add_zero]; exact h5
  · rw [th_cnt_u, if_neg (by decide), Int32.add_zero]; exact h6
  · rw [th_alw_u, if_neg (by decide), Int32.add_zero]; exact h7
theorem th_RD_109 {f y : Nat → Int32} {m : Nat} (h : th_RD f m y) : th_RD (upd f m (-109)) (m + 1) (upd y 4 (y 4 + 1)) := by
  obtain ⟨h2, h3, h4, h5, h6, h7⟩ := h
  refine ⟨?_, ?_, ?_, ?_, ?_, ?_⟩
  · rw [th_cnt_u, if_neg (by decide), Int32.add_zero]; exact h2
  · rw [th_cnt_u, if_neg (by decide), Int32.add_zero]; exact h3
  · rw [th_cnt_u, if_pos rfl, ← h4]; exact if_pos rfl
  · rw [th_cnt_u, if_neg (by decide), Int32.add_zero]; exact h5
  · rw [th_cnt_u, if_neg (by decide), Int32.add_zero]; exact h6
  · rw [th_alw_u, if_neg (by decide), Int32.add_zero]; exact h7
theorem th_RD_108 {f y : Nat → Int32} {m : Nat} (h : th_RD f m y) : th_RD (upd f m (-108)) (m + 1) (upd y 5 (y 5 + 1)) := by
  obtain ⟨h2, h3, h4, h5, h6, h7⟩ := h
  refine ⟨?_, ?_, ?_, ?_, ?_, ?_⟩
  · rw [th_cnt_u, if_neg (by decide), Int32.add_zero]; exact h2
  · rw [th_cnt_u, if_neg (by decide), Int32.add_zero]; exact h3
  · rw [th_cnt_u, if_neg (by decide), Int32.add_zero]; exact h4
  · rw [th_cnt_u, if_pos rfl, ← h5]; exact if_pos rfl
  · rw [th_cnt_u, if_neg (by decide), Int32.add_zero]; exact h6
  · rw [th_alw_u, if_neg (by decide), Int32.add_zero]; exact h7
theorem th_RD_104 {f y : Nat → Int32} {m : Nat} (h : th_RD f m y) : th_RD (upd f m (-104)) (m + 1) (upd y 6 (y 6 + 1)) := by
  obtain ⟨h2, h3, h4, h5, h6, h7⟩ := h
  refine ⟨?_, ?_, ?_, ?_, ?_, ?_⟩
  · rw [th_cnt_u, if_neg (by decide), Int32.add_zero]; exact h2
  · rw [th_cnt_u, if_neg (by decide), Int32.add_zero]; exact h3
  · rw [th_cnt_u, if_neg (by decide), Int32.add_zero]; exact h4
  · rw [th_cnt_u, if_neg (by decide), Int32.add_zero]; exact h5
  · rw [th_cnt_u, if_pos rfl, ← h6]; exact if_pos rfl
  · rw [th_alw_u, if_neg (by decide), Int32.add_zero]; exact h7
theorem th_RD_2 {f y : Nat → Int32} {m d e : Nat} (h : th_RD f (m + 1) y) (hd : d ≤ 9) (ed : f m = nI d) (he : 48 ≤ e) (he2 : e ≤ 57) : th_RD (upd f m (10 * f m + nI e - 48)) (m + 1) (upd y 7 (y 7 + (9 * f m + nI e - 48))) := by
  obtain ⟨h2, h3, h4, h5, h6, h7⟩ := h
  have ev : 10 * f m + nI e - 48 = nI (10 * d + e - 48) := by
    rw [ed, show (10 : Int32) * nI d = nI (10 * d) from pk_mul 10 d, nI_add]
    exact pk_sub (b := 48) (by omega)
  have ew : 9 * f m + nI e - 48 = nI (9 * d + e - 48) := by
    rw [ed, show (9 : Int32) * nI d = nI (9 * d) from pk_mul 9 d, nI_add]
    exact pk_sub (b := 48) (by omega)
  have z : ∀ c : Int32, c < 0 → th_cnt f c (m + 1) = th_cnt f c m := fun c hc => by
    rw [th_cnt, if_neg (fun e2 => absurd hc (by rw [← e2, ed]; exact nI_pos (by omega))), Int32.add_zero]
  refine ⟨?_, ?_, ?_, ?_, ?_, ?_⟩
  · rw [th_cnt_z ev (by omega) (by decide), ← z _ (by decide)]; exact h2
  · rw [th_cnt_z ev (by omega) (by decide), ← z _ (by decide)]; exact h3
  · rw [th_cnt_z ev (by omega) (by decide), ← z _ (by decide)]; exact h4
  · rw [th_cnt_z ev (by omega) (by decide), ← z _ (by decide)]; exact h5
  · rw [th_cnt_z ev (by omega) (by decide), ← z _ (by decide)]; exact h6
  · rw [th_alw_z ev (by omega), show upd y 7 (y 7 + (9 * f m + nI e - 48)) 7 = y 7 + (9 * f m + nI e - 48) from if_pos rfl, h7, ew, th_alw, ed, if_pos (Int32.not_lt.mp (nI_pos (by omega))), Int32.add_assoc, nI_add, show (10 : Int32) * nI d = nI (10 * d) from pk_mul 10 d, nI_add, show nI (10 * d + e) - 48 = nI (10 * d + e - 48) from pk_sub (b := 48) (by omega)]
    congr 2
    omega
set_option maxHeartbeats 600000 in
set_option maxRecDepth 100000 in
theorem c_X10_forget {l : Launch} {G : pm_G} {ad : Nat → Nat → Nat} {S : Nat → Nat} {A : Nat → Nat → Int32} {X : Nat → Int32} {Y : Nat → Nat → Int32} {F : Nat → Int64} {Hd Cs : Nat → Option Nat} {m : List pm_A} {y : Nat → Int32} {Q : pm_T} (hQ : Q ad none (th_cw ad S A X (va_up Y 1 (upd (upd (upd (upd (upd (upd y 2 0) 3 0) 4 0) 5 0) 6 0) 7 0)) F Hd Cs m)) : pm_C l G m_X10_forget [.ref (ad 3 2)] ad (th_cw ad S A X (va_up Y 1 y) F Hd Cs m) Q := by
  refine pm_met (by decide) (Nat.le_of_ble_eq_true rfl) ?_
  refine pm_aload_n dX10_forget_0 rfl rfl ?_
  refine pm_iconst (v := 0) dX10_forget_1 (by decide) ?_
  refine pm_put (w2 := (_, _, _, [_, _, .inr (_, [_, _, _, _, _, _, _, _])], _, _, _, _, _)) fl_RX10_9_10 fp_10_2 dX10_forget_2 rfl rfl rfl (Nat.le_of_ble_eq_true rfl) rfl ?_
  refine pm_aload_n dX10_forget_5 rfl rfl ?_
  refine pm_iconst (v := 0) dX10_forget_6 (by decide) ?_
  refine pm_put (w2 := (_, _, _, [_, _, .inr (_, [_, _, _, _, _, _, _, _])], _, _, _, _, _)) fl_RX10_15_10 fp_10_3 dX10_forget_7 rfl rfl rfl (Nat.le_of_ble_eq_true rfl) rfl ?_
  refine pm_aload_n dX10_forget_10 rfl rfl ?_
  refine pm_iconst (v := 0) dX10_forget_11 (by decide) ?_
  refine pm_put (w2 := (_, _, _, [_, _, .inr (_, [_, _, _, _, _, _, _, _])], _, _, _, _, _)) fl_RX10_18_10 fp_10_4 dX10_forget_12 rfl rfl rfl (Nat.le_of_ble_eq_true rfl) rfl ?_
  refine pm_aload_n dX10_forget_15 rfl rfl ?_
  refine pm_iconst (v := 0) dX10_forget_16 (by decide) ?_
  refine pm_put (w2 := (_, _, _, [_, _, .inr (_, [_, _, _, _, _, _, _, _])], _, _, _, _, _)) fl_RX10_21_10 fp_10_5 dX10_forget_17 rfl rfl rfl (Nat.le_of_ble_eq_true rfl) rfl ?_
  refine pm_aload_n dX10_forget_20 rfl rfl ?_
  refine pm_iconst (v := 0) dX10_forget_21 (by decide) ?_
  refine pm_put (w2 := (_, _, _, [_, _, .inr (_, [_, _, _, _, _, _, _, _])], _, _, _, _, _)) fl_RX10_24_10 fp_10_6 dX10_forget_22 rfl rfl rfl (Nat.le_of_ble_eq_true rfl) rfl ?_
  refine pm_aload_n dX10_forget_25 rfl rfl ?_
  refine pm_iconst (v := 0) dX10_forget_26 (by decide) ?_
  refine pm_put (w2 := (_, _, _, [_, _, .inr (_, [_, _, _, _, _, _, _, _])], _, _, _, _, _)) fl_RX10_27_10 fp_10_7 dX10_forget_27 rfl rfl rfl (Nat.le_of_ble_eq_true rfl) rfl ?_
  refine pm_vret dX10_forget_30 rfl rfl rfl ?_
  exact hQ

set_option maxHeartbeats 600000 in
set_option maxRecDepth 100000 in
theorem c_X10_takesNumber {l : Launch} {G : pm_G} {ad : Nat → Nat → Nat} {S : Nat → Nat} {A : Nat → Nat → Int32} {X : Nat → Int32} {Y : Nat → Nat → Int32} {F : Nat → Int64} {Hd Cs : Nat → Option Nat} {m : List pm_A} {y : Nat → Int32} {Q : pm_T} {x : Int32} (hQ : Q ad none (th_cw ad S A X (va_up Y 1 (upd y 7 (y 7 + x))) F Hd Cs m)) : pm_C l G m_X10_takesNumber [.ref (ad 3 2), .int x] ad (th_cw ad S A X (va_up Y 1 y) F Hd Cs m) Q := by
  refine pm_met (by decide) (Nat.le_of_ble_eq_true rfl) ?_
  refine pm_aload_n dX10_takesNumber_0 rfl rfl ?_
  refine pm_dup dX10_takesNumber_1 rfl ?_
  refine pm_get fl_RX10_27_10 dX10_takesNumber_2 rfl rfl ?_
  refine pm_iload_n dX10_takesNumber_5 rfl rfl ?_
  refine pm_iadd dX10_takesNumber_6 ?_
  refine pm_put (w2 := (_, _, _, [_, _, .inr (_, [_, _, _, _, _, _, _, _])], _, _, _, _, _)) fl_RX10_27_10 fp_10_7 dX10_takesNumber_7 rfl rfl rfl (Nat.le_of_ble_eq_true rfl) rfl ?_
  refine pm_vret dX10_takesNumber_10 rfl rfl rfl ?_
  exact hQ

set_option maxHeartbeats 600000 in
set_option maxRecDepth 100000 in
theorem c_X10_takesLetter {l : Launch} {G : pm_G} {ad : Nat → Nat → Nat} {S : Nat → Nat} {A : Nat → Nat → Int32} {X : Nat → Int32} {Y : Nat → Nat → Int32} {F : Nat → Int64} {Hd Cs : Nat → Option Nat} {m : List pm_A} {y : Nat → Int32} {Q : pm_T} {c : Int32} (h120 : c = 120 → Q ad (some (.int 1)) (th_cw ad S A X (va_up Y 1 (upd y 2 (y 2 + 1))) F Hd Cs m)) (h121 : c = 121 → Q ad (some (.int 1)) (th_cw ad S A X (va_up Y 1 (upd y 3 (y 3 + 1))) F Hd Cs m)) (h109 : c = 109 → Q ad (some (.int 1)) (th_cw ad S A X (va_up Y 1 (upd y 4 (y 4 + 1))) F Hd Cs m)) (h108 : c = 108 → Q ad (some (.int 1)) (th_cw ad S A X (va_up Y 1 (upd y 5 (y 5 + 1))) F Hd Cs m)) (h104 : c = 104 → Q ad (some (.int 1)) (th_cw ad S A X (va_up Y 1 (upd y 6 (y 6 + 1))) F Hd Cs m)) (h0 : ¬ th_l5 c → Q ad (some (.int 0)) (th_cw ad S A X (va_up Y 1 y) F Hd Cs m)) : pm_C l G m_X10_takesLetter [.ref (ad 3 2), .int c] ad (th_cw ad S A X (va_up Y 1 y) F Hd Cs m) Q := by
  refine pm_met (by decide) (Nat.le_of_ble_eq_true rfl) ?_
  refine pm_iload_n dX10_takesLetter_0 rfl rfl ?_
  by_cases s_1_104 : c = 104
  · refine pm_lookup (off := 99) (tgt := 100) dX10_takesLetter_1 (by decide) (by rw [s_1_104]; decide) (by decide) ?_
    refine pm_aload_n dX10_takesLetter_100 rfl rfl ?_
    refine pm_dup dX10_takesLetter_101 rfl ?_
    refine pm_get fl_RX10_24_10 dX10_takesLetter_102 rfl rfl ?_
    refine pm_iconst (v := 1) dX10_takesLetter_105 (by decide) ?_
    refine pm_iadd dX10_takesLetter_106 ?_
    refine pm_put (w2 := (_, _, _, [_, _, .inr (_, [_, _, _, _, _, _, _, _])], _, _, _, _, _)) fl_RX10_24_10 fp_10_6 dX10_takesLetter_107 rfl rfl rfl (Nat.le_of_ble_eq_true rfl) rfl ?_
    refine pm_iconst (v := 1) dX10_takesLetter_110 (by decide) ?_
    refine pm_zret dX10_takesLetter_111 rfl rfl rfl rfl ?_
    exact h104 s_1_104
  · skip
    by_cases s_1_108 : c = 108
    · refine pm_lookup (off := 87) (tgt := 88) dX10_takesLetter_1 (by decide) (by rw [s_1_108]; decide) (by decide) ?_
      refine pm_aload_n dX10_takesLetter_88 rfl rfl ?_
      refine pm_dup dX10_takesLetter_89 rfl ?_
      refine pm_get fl_RX10_21_10 dX10_takesLetter_90 rfl rfl ?_
      refine pm_iconst (v := 1) dX10_takesLetter_93 (by decide) ?_
      refine pm_iadd dX10_takesLetter_94 ?_
      refine pm_put (w2 := (_, _, _, [_, _, .inr (_, [_, _, _, _, _, _, _, _])], _, _, _, _, _)) fl_RX10_21_10 fp_10_5 dX10_takesLetter_95 rfl rfl rfl (Nat.le_of_ble_eq_true rfl) rfl ?_
      refine pm_iconst (v := 1) dX10_takesLetter_98 (by decide) ?_
      refine pm_zret dX10_takesLetter_99 rfl rfl rfl rfl ?_
      exact h108 s_1_108
    · skip
      by_cases s_1_109 : c = 109
      · refine pm_lookup (off := 75) (tgt := 76) dX10_takesLetter_1 (by decide) (by rw [s_1_109]; decide) (by decide) ?_
        refine pm_aload_n dX10_takesLetter_76 rfl rfl ?_
        refine pm_dup dX10_takesLetter_77 rfl ?_
        refine pm_get fl_RX10_18_10 dX10_takesLetter_78 rfl rfl ?_
        refine pm_iconst (v := 1) dX10_takesLetter_81 (by decide) ?_
        refine pm_iadd dX10_takesLetter_82 ?_
        refine pm_put (w2 := (_, _, _, [_, _, .inr (_, [_, _, _, _, _, _, _, _])], _, _, _, _, _)) fl_RX10_18_10 fp_10_4 dX10_takesLetter_83 rfl rfl rfl (Nat.le_of_ble_eq_true rfl) rfl ?_
        refine pm_iconst (v := 1) dX10_takesLetter_86 (by decide) ?_
        refine pm_zret dX10_takesLetter_87 rfl rfl rfl rfl ?_
        exact h109 s_1_109
      · skip
        by_cases s_1_120 : c = 120
        · refine pm_lookup (off := 51) (tgt := 52) dX10_takesLetter_1 (by decide) (by rw [s_1_120]; decide) (by decide) ?_
          refine pm_aload_n dX10_takesLetter_52 rfl rfl ?_
          refine pm_dup dX10_takesLetter_53 rfl ?_
          refine pm_get fl_RX10_9_10 dX10_takesLetter_54 rfl rfl ?_
          refine pm_iconst (v := 1) dX10_takesLetter_57 (by decide) ?_
          refine pm_iadd dX10_takesLetter_58 ?_
          refine pm_put (w2 := (_, _, _, [_, _, .inr (_, [_, _, _, _, _, _, _, _])], _, _, _, _, _)) fl_RX10_9_10 fp_10_2 dX10_takesLetter_59 rfl rfl rfl (Nat.le_of_ble_eq_true rfl) rfl ?_
          refine pm_iconst (v := 1) dX10_takesLetter_62 (by decide) ?_
          refine pm_zret dX10_takesLetter_63 rfl rfl rfl rfl ?_
          exact h120 s_1_120
        · skip
          by_cases s_1_121 : c = 121
          · refine pm_lookup (off := 63) (tgt := 64) dX10_takesLetter_1 (by decide) (by rw [s_1_121]; decide) (by decide) ?_
            refine pm_aload_n dX10_takesLetter_64 rfl rfl ?_
            refine pm_dup dX10_takesLetter_65 rfl ?_
            refine pm_get fl_RX10_15_10 dX10_takesLetter_66 rfl rfl ?_
            refine pm_iconst (v := 1) dX10_takesLetter_69 (by decide) ?_
            refine pm_iadd dX10_takesLetter_70 ?_
            refine pm_put (w2 := (_, _, _, [_, _, .inr (_, [_, _, _, _, _, _, _, _])], _, _, _, _, _)) fl_RX10_15_10 fp_10_3 dX10_takesLetter_71 rfl rfl rfl (Nat.le_of_ble_eq_true rfl) rfl ?_
            refine pm_iconst (v := 1) dX10_takesLetter_74 (by decide) ?_
            refine pm_zret dX10_takesLetter_75 rfl rfl rfl rfl ?_
            exact h121 s_1_121
          · skip
            refine pm_lookup (off := 111) (tgt := 112) dX10_takesLetter_1 (by decide) (by have q104 := th_ne s_1_104 (z := 104) (by decide); have q108 := th_ne s_1_108 (z := 108) (by decide); have q109 := th_ne s_1_109 (z := 109) (by decide); have q120 := th_ne s_1_120 (z := 120) (by decide); have q121 := th_ne s_1_121 (z := 121) (by decide); generalize Int32.toInt c = z at q104 q108 q109 q120 q121 ⊢; simp [Op.lookupswitch.offset, Ne.symm q104, Ne.symm q108, Ne.symm q109, Ne.symm q120, Ne.symm q121]) (by decide) ?_
            refine pm_iconst (v := 0) dX10_takesLetter_112 (by decide) ?_
            refine pm_zret dX10_takesLetter_113 rfl rfl rfl rfl ?_
            exact h0 (fun z => z.elim s_1_120 (fun z => z.elim s_1_121 (fun z => z.elim s_1_109 (fun z => z.elim s_1_108 s_1_104))))

set_option maxHeartbeats 600000 in
set_option maxRecDepth 100000 in
theorem c_X10_takesTangles {l : Launch} {G : pm_G} {ad : Nat → Nat → Nat} {S : Nat → Nat} {A : Nat → Nat → Int32} {X : Nat → Int32} {Y : Nat → Nat → Int32} {F : Nat → Int64} {Hd Cs : Nat → Option Nat} {m : List pm_A} {y : Nat → Int32} {Q : pm_T} {c : Int32} (h1 : th_t3 c → Q ad (some (.int 1)) (th_cw ad S A X (va_up Y 1 (upd y 1 c)) F Hd Cs m)) (h0 : ¬ th_t3 c → Q ad (some (.int 0)) (th_cw ad S A X (va_up Y 1 (upd y 1 c)) F Hd Cs m)) : pm_C l G m_X10_takesTangles [.ref (ad 3 2), .int c] ad (th_cw ad S A X (va_up Y 1 y) F Hd Cs m) Q := by
  refine pm_met (by decide) (Nat.le_of_ble_eq_true rfl) ?_
  refine pm_aload_n dX10_takesTangles_0 rfl rfl ?_
  refine pm_iload_n dX10_takesTangles_1 rfl rfl ?_
  refine pm_put (w2 := (_, _, _, [_, _, .inr (_, [_, _, _, _, _, _, _, _])], _, _, _, _, _)) fl_RX10_30_10 fp_10_1 dX10_takesTangles_2 rfl rfl rfl (Nat.le_of_ble_eq_true rfl) rfl ?_
  refine pm_iload_n dX10_takesTangles_5 rfl rfl ?_
  refine pm_bipush (v := 116) dX10_takesTangles_6 (by decide) ?_
  refine pm_icmp_eq (tgt := 23) dX10_takesTangles_8 (by decide) (fun c_8 => ?_) (fun c_8 => ?_)
  · refine pm_iconst (v := 1) dX10_takesTangles_23 (by decide) ?_
    refine pm_goto (tgt := 28) dX10_takesTangles_24 (by decide) ?_
    refine pm_zret dX10_takesTangles_28 rfl rfl rfl rfl ?_
    exact h1 (Or.inl c_8)
  · refine pm_iload_n dX10_takesTangles_11 rfl rfl ?_
    refine pm_bipush (v := 111) dX10_takesTangles_12 (by decide) ?_
    refine pm_icmp_eq (tgt := 23) dX10_takesTangles_14 (by decide) (fun c_14 => ?_) (fun c_14 => ?_)
    · refine pm_iconst (v := 1) dX10_takesTangles_23 (by decide) ?_
      refine pm_goto (tgt := 28) dX10_takesTangles_24 (by decide) ?_
      refine pm_zret dX10_takesTangles_28 rfl rfl rfl rfl ?_
      exact h1 (Or.inr (Or.inl c_14))
    · refine pm_iload_n dX10_takesTangles_17 rfl rfl ?_
      refine pm_bipush (v := 110) dX10_takesTangles_18 (by decide) ?_
      refine pm_icmp_ne (tgt := 27) dX10_takesTangles_20 (by decide) (fun c_20 => ?_) (fun c_20 => ?_)
      · refine pm_iconst (v := 0) dX10_takesTangles_27 (by decide) ?_
        refine pm_zret dX10_takesTangles_28 rfl rfl rfl rfl ?_
        exact h0 (fun z => z.elim c_8 (fun z => z.elim c_14 c_20))
      · refine pm_iconst (v := 1) dX10_takesTangles_23 (by decide) ?_
        refine pm_goto (tgt := 28) dX10_takesTangles_24 (by decide) ?_
        refine pm_zret dX10_takesTangles_28 rfl rfl rfl rfl ?_
        exact h1 (Or.inr (Or.inr c_20))

set_option maxHeartbeats 600000 in
set_option maxRecDepth 100000 in
theorem c_X6_isDigit {l : Launch} {G : pm_G} {ad : Nat → Nat → Nat} {w : pm_V} {Q : pm_T} {c : Int32} (h1 : th_dg c → Q ad (some (.int 1)) w) (h0 : ¬ th_dg c → Q ad (some (.int 0)) w) : pm_C l G m_X6_isDigit [.int c] ad w Q := by
  refine pm_met (by decide) (Nat.le_of_ble_eq_true rfl) ?_
  refine pm_iload_n dX6_isDigit_0 rfl rfl ?_
  refine pm_bipush (v := 48) dX6_isDigit_1 (by decide) ?_
  refine pm_icmp_lt (tgt := 16) dX6_isDigit_3 (by decide) (fun c_3 => ?_) (fun c_3 => ?_)
  · refine pm_iconst (v := 0) dX6_isDigit_16 (by decide) ?_
    refine pm_zret dX6_isDigit_17 rfl rfl rfl rfl ?_
    exact h0 (fun z => absurd c_3 (Int32.not_lt.mpr z.1))
  · refine pm_iload_n dX6_isDigit_6 rfl rfl ?_
    refine pm_bipush (v := 57) dX6_isDigit_7 (by decide) ?_
    refine pm_icmp_gt (tgt := 16) dX6_isDigit_9 (by decide) (fun c_9 => ?_) (fun c_9 => ?_)
    · refine pm_iconst (v := 0) dX6_isDigit_16 (by decide) ?_
      refine pm_zret dX6_isDigit_17 rfl rfl rfl rfl ?_
      exact h0 (fun z => absurd c_9 (Int32.not_lt.mpr z.2))
    · refine pm_iconst (v := 1) dX6_isDigit_12 (by decide) ?_
      refine pm_goto (tgt := 17) dX6_isDigit_13 (by decide) ?_
      refine pm_zret dX6_isDigit_17 rfl rfl rfl rfl ?_
      exact h1 ⟨Int32.not_lt.mp c_3, Int32.not_lt.mp c_9⟩

set_option maxHeartbeats 600000 in
set_option maxRecDepth 100000 in
theorem c_X6_readsTerm {l : Launch} {G : pm_G} {ad : Nat → Nat → Nat} {S : Nat → Nat} {A : Nat → Nat → Int32} {X : Nat → Int32} {Y : Nat → Nat → Int32} {F : Nat → Int64} {Hd Cs : Nat → Option Nat} {m : List pm_A} {y : Nat → Int32} {Q : pm_T} {mm : Nat} {f : Nat → Int32} {t c : Int32} (hx1 : X 1 = nI mm) (hD : th_RD f mm y) (h1 : ∀ p X2 y2, th_go (0, mm, f, t) c = some p → th_RC p X2 y2 → Q ad (some (.int 1)) (th_cw ad S A X2 (va_up Y 1 y2) F Hd Cs m)) (h0 : ∀ X2 y2, th_go (0, mm, f, t) c = none → Q ad (some (.int 0)) (th_cw ad S A X2 (va_up Y 1 y2) F Hd Cs m)) : pm_C l G m_X6_readsTerm [.ref (ad 3 0), .int c] ad (th_cw ad S A X (va_up Y 1 y) F Hd Cs m) Q := by
  refine pm_met (by decide) (Nat.le_of_ble_eq_true rfl) ?_
  refine pm_aload_n dX6_readsTerm_0 rfl rfl ?_
  refine pm_dup dX6_readsTerm_1 rfl ?_
  refine pm_get fl_RX6_37_6 dX6_readsTerm_2 rfl rfl ?_
  rw [hx1]
  refine pm_iconst (v := 1) dX6_readsTerm_5 (by decide) ?_
  refine pm_iadd dX6_readsTerm_6 ?_
  rw [nI_1]
  refine pm_put (w2 := (_, _, _, [.inr (_, [_, _, _, _, _, _]), _, _], _, _, _, _, _)) fl_RX6_37_6 fp_6_4 dX6_readsTerm_7 rfl rfl rfl (Nat.le_of_ble_eq_true rfl) rfl ?_
  refine pm_iload_n dX6_readsTerm_10 rfl rfl ?_
  refine pm_callS (M2 := m_X6_isDigit) (As := [_]) ok_X6_isDigit kw_317 kw_318 dX6_readsTerm_11 rfl rfl (Nat.le_of_ble_eq_true rfl) ⟨⟨Nat.le_of_ble_eq_true rfl, Nat.le_of_ble_eq_true rfl⟩, Nat.le_of_ble_eq_true rfl, Nat.le_of_ble_eq_true rfl⟩ ?_
  refine c_X6_isDigit (fun hd => ?_) (fun hd => ?_)
  · refine pm_if_ne (tgt := 31) dX6_readsTerm_14 (by decide) (fun c_14 => ?_) (fun c_14 => absurd c_14 (by decide))
    refine pm_aload_n dX6_readsTerm_31 rfl rfl ?_
    refine pm_iload_n dX6_readsTerm_32 rfl rfl ?_
    refine pm_bipush (v := 48) dX6_readsTerm_33 (by decide) ?_
    refine pm_isub dX6_readsTerm_35 ?_
    refine pm_put (w2 := (_, _, _, [.inr (_, [_, _, _, _, _, _]), _, _], _, _, _, _, _)) fl_RX6_72_6 fp_6_5 dX6_readsTerm_36 rfl rfl rfl (Nat.le_of_ble_eq_true rfl) rfl ?_
    refine pm_aload_n dX6_readsTerm_39 rfl rfl ?_
    refine pm_get fl_RX6_18_6 dX6_readsTerm_40 rfl rfl ?_
    refine pm_aload_n dX6_readsTerm_43 rfl rfl ?_
    refine pm_get fl_RX6_72_6 dX6_readsTerm_44 rfl rfl ?_
    refine pm_callV (M2 := m_X10_takesNumber) (As := [_]) ok_X10_takesNumber (ci := 10) rfl kw_324 kw_325 kw_326 dX6_readsTerm_47 rfl rfl rfl (Nat.le_of_ble_eq_true rfl) ⟨⟨Nat.le_of_ble_eq_true rfl, Nat.le_of_ble_eq_true rfl⟩, Nat.le_of_ble_eq_true rfl, Nat.le_of_ble_eq_true rfl⟩ ?_
    refine c_X10_takesNumber (X := (upd (upd X 1 (nI (mm + 1))) 2 (c - 48))) ?_
    obtain ⟨e, he1, he2, rfl⟩ := th_dgN hd
    have ec : nI e - 48 = nI (e - 48) := pk_sub (b := 48) he1
    refine pm_aload_n dX6_readsTerm_50 rfl rfl ?_
    refine pm_aload_n dX6_readsTerm_51 rfl rfl ?_
    refine pm_get fl_RX6_72_6 dX6_readsTerm_52 rfl rfl ?_
    show pm_W _ _ _ _ _ _ (.int (nI e - 48) :: _) _ _ _ _
    refine pm_if_ne (tgt := 62) dX6_readsTerm_55 (by decide) (fun c_55 => ?_) (fun c_55 => ?_)
    · refine pm_iconst (v := 1) dX6_readsTerm_62 (by decide) ?_
      refine pm_put (w2 := (_, _, _, [.inr (_, [_, _, _, _, _, _]), _, _], _, _, _, _, _)) fl_RX6_34_6 fp_6_3 dX6_readsTerm_63 rfl rfl rfl (Nat.le_of_ble_eq_true rfl) rfl ?_
      refine pm_iconst (v := 1) dX6_readsTerm_66 (by decide) ?_
      refine pm_zret dX6_readsTerm_67 rfl rfl rfl rfl ?_
      have e8 : ¬ nI e = 48 := fun z => c_55 (by rw [z]; decide)
      refine h1 (2, mm + 1, upd f mm (nI e - 48), t) (upd (upd (upd X 1 (nI (mm + 1))) 2 (nI e - 48)) 0 1) (upd y 7 (y 7 + (nI e - 48))) ?_ ⟨rfl, rfl, fun _ => ?_, th_RD_num hD ec (by omega), fun e => absurd e (by simp)⟩
      · rw [th_go0, if_pos hd, if_neg e8]
      · show nI e - 48 = upd f mm (nI e - 48) (mm + 1 - 1)
        rw [Nat.add_sub_cancel, upd, if_pos rfl]
    · refine pm_iconst (v := 2) dX6_readsTerm_58 (by decide) ?_
      refine pm_goto (tgt := 63) dX6_readsTerm_59 (by decide) ?_
      refine pm_put (w2 := (_, _, _, [.inr (_, [_, _, _, _, _, _]), _, _], _, _, _, _, _)) fl_RX6_34_6 fp_6_3 dX6_readsTerm_63 rfl rfl rfl (Nat.le_of_ble_eq_true rfl) rfl ?_
      refine pm_iconst (v := 1) dX6_readsTerm_66 (by decide) ?_
      refine pm_zret dX6_readsTerm_67 rfl rfl rfl rfl ?_
      have e8 : nI e = 48 := by
        rw [ec] at c_55
        have := (nI_eq (b := 0) (by omega) (by decide)).mp c_55
        rw [show e = 48 by omega]
        rfl
      refine h1 (1, mm + 1, upd f mm (nI e - 48), t) (upd (upd (upd X 1 (nI (mm + 1))) 2 (nI e - 48)) 0 2) (upd y 7 (y 7 + (nI e - 48))) ?_ ⟨rfl, rfl, fun e => absurd e (by simp), th_RD_num hD ec (by omega), fun e => absurd e (by simp)⟩
      rw [th_go0, if_pos hd, if_pos e8]
  · refine pm_if_ne (tgt := 31) dX6_readsTerm_14 (by decide) (fun c_14 => absurd (rfl) c_14) (fun c_14 => ?_)
    refine pm_aload_n dX6_readsTerm_17 rfl rfl ?_
    refine pm_iconst (v := 2) dX6_readsTerm_18 (by decide) ?_
    refine pm_put (w2 := (_, _, _, [.inr (_, [_, _, _, _, _, _]), _, _], _, _, _, _, _)) fl_RX6_34_6 fp_6_3 dX6_readsTerm_19 rfl rfl rfl (Nat.le_of_ble_eq_true rfl) rfl ?_
    refine pm_aload_n dX6_readsTerm_22 rfl rfl ?_
    refine pm_get fl_RX6_18_6 dX6_readsTerm_23 rfl rfl ?_
    refine pm_iload_n dX6_readsTerm_26 rfl rfl ?_
    refine pm_callV (M2 := m_X10_takesLetter) (As := [_]) ok_X10_takesLetter (ci := 10) rfl kw_320 kw_321 kw_322 dX6_readsTerm_27 rfl rfl rfl (Nat.le_of_ble_eq_true rfl) ⟨⟨Nat.le_of_ble_eq_true rfl, Nat.le_of_ble_eq_true rfl⟩, Nat.le_of_ble_eq_true rfl, Nat.le_of_ble_eq_true rfl⟩ ?_
    refine c_X10_takesLetter (X := (upd (upd X 1 (nI (mm + 1))) 0 2)) (fun e => ?_) (fun e => ?_) (fun e => ?_) (fun e => ?_) (fun e => ?_) (fun hl => ?_)
    · subst e
      refine pm_zret dX6_readsTerm_30 rfl rfl rfl rfl ?_
      have hl : th_l5 120 := Or.inl rfl
      refine h1 (1, mm + 1, upd f mm (-120), t) (upd (upd X 1 (nI (mm + 1))) 0 2) (upd y 2 (y 2 + 1)) ?_ ⟨rfl, rfl, fun e => absurd e (by simp), th_RD_120 hD, fun e => absurd e (by simp)⟩
      rw [th_go0, if_neg hd, if_pos hl]
    · subst e
      refine pm_zret dX6_readsTerm_30 rfl rfl rfl rfl ?_
      have hl : th_l5 121 := Or.inr (Or.inl rfl)
      refine h1 (1, mm + 1, upd f mm (-121), t) (upd (upd X 1 (nI (mm + 1))) 0 2) (upd y 3 (y 3 + 1)) ?_ ⟨rfl, rfl, fun e => absurd e (by simp), th_RD_121 hD, fun e => absurd e (by simp)⟩
      rw [th_go0, if_neg hd, if_pos hl]
    · subst e
      refine pm_zret dX6_readsTerm_30 rfl rfl rfl rfl ?_
      have hl : th_l5 109 := Or.inr (Or.inr (Or.inl rfl))
      refine h1 (1, mm + 1, upd f mm (-109), t) (upd (upd X 1 (nI (mm + 1))) 0 2) (upd y 4 (y 4 + 1)) ?_ ⟨rfl, rfl, fun e => absurd e (by simp), th_RD_109 hD, fun e => absurd e (by simp)⟩
      rw [th_go0, if_neg hd, if_pos hl]
    · subst e
      refine pm_zret dX6_readsTerm_30 rfl rfl rfl rfl ?_
      have hl : th_l5 108 := Or.inr (Or.inr (Or.inr (Or.inl rfl)))
      refine h1 (1, mm + 1, upd f mm (-108), t) (upd (upd X 1 (nI (mm + 1))) 0 2) (upd y 5 (y 5 + 1)) ?_ ⟨rfl, rfl, fun e => absurd e (by simp), th_RD_108 hD, fun e => absurd e (by simp)⟩
      rw [th_go0, if_neg hd, if_pos hl]
    · subst e
      refine pm_zret dX6_readsTerm_30 rfl rfl rfl rfl ?_
      have hl : th_l5 104 := Or.inr (Or.inr (Or.inr (Or.inr rfl)))
      refine h1 (1, mm + 1, upd f mm (-104), t) (upd (upd X 1 (nI (mm + 1))) 0 2) (upd y 6 (y 6 + 1)) ?_ ⟨rfl, rfl, fun e => absurd e (by simp), th_RD_104 hD, fun e => absurd e (by simp)⟩
      rw [th_go0, if_neg hd, if_pos hl]
    · refine pm_zret dX6_readsTerm_30 rfl rfl rfl rfl ?_
      refine h0 (upd (upd X 1 (nI (mm + 1))) 0 2) y ?_
      rw [th_go0, if_neg hd, if_neg hl]

set_option maxHeartbeats 600000 in
set_option maxRecDepth 100000 in
theorem c_X6_readsSecondDigit {l : Launch} {G : pm_G} {ad : Nat → Nat → Nat} {S : Nat → Nat} {A : Nat → Nat → Int32} {X : Nat → Int32} {Y : Nat → Nat → Int32} {F : Nat → Int64} {Hd Cs : Nat → Option Nat} {m : List pm_A} {y : Nat → Int32} {Q : pm_T} {mm d : Nat} {f : Nat → Int32} {t c : Int32} (hd : th_dg c) (hm : 1 ≤ mm) (hdd : d ≤ 9) (ed : f (mm - 1) = nI d) (hx1 : X 1 = nI mm) (hx2 : X 2 = f (mm - 1)) (hD : th_RD f mm y) (h1 : ∀ p X2 y2, th_go (2, mm, f, t) c = some p → th_RC p X2 y2 → Q ad (some (.int 1)) (th_cw ad S A X2 (va_up Y 1 y2) F Hd Cs m)) : pm_C l G m_X6_readsSecondDigit [.ref (ad 3 0), .int c] ad (th_cw ad S A X (va_up Y 1 y) F Hd Cs m) Q := by
  refine pm_met (by decide) (Nat.le_of_ble_eq_true rfl) ?_
  refine pm_aload_n dX6_readsSecondDigit_0 rfl rfl ?_
  refine pm_get fl_RX6_18_6 dX6_readsSecondDigit_1 rfl rfl ?_
  refine pm_bipush (v := 9) dX6_readsSecondDigit_4 (by decide) ?_
  refine pm_aload_n dX6_readsSecondDigit_6 rfl rfl ?_
  refine pm_get fl_RX6_72_6 dX6_readsSecondDigit_7 rfl rfl ?_
  rw [hx2]
  refine pm_imul dX6_readsSecondDigit_10 ?_
  refine pm_iload_n dX6_readsSecondDigit_11 rfl rfl ?_
  refine pm_iadd dX6_readsSecondDigit_12 ?_
  refine pm_bipush (v := 48) dX6_readsSecondDigit_13 (by decide) ?_
  refine pm_isub dX6_readsSecondDigit_15 ?_
  refine pm_callV (M2 := m_X10_takesNumber) (As := [_]) ok_X10_takesNumber (ci := 10) rfl kw_324 kw_325 kw_326 dX6_readsSecondDigit_16 rfl rfl rfl (Nat.le_of_ble_eq_true rfl) ⟨⟨Nat.le_of_ble_eq_true rfl, Nat.le_of_ble_eq_true rfl⟩, Nat.le_of_ble_eq_true rfl, Nat.le_of_ble_eq_true rfl⟩ ?_
  refine c_X10_takesNumber ?_
  refine pm_aload_n dX6_readsSecondDigit_19 rfl rfl ?_
  refine pm_iconst (v := 2) dX6_readsSecondDigit_20 (by decide) ?_
  refine pm_put (w2 := (_, _, _, [.inr (_, [_, _, _, _, _, _]), _, _], _, _, _, _, _)) fl_RX6_34_6 fp_6_3 dX6_readsSecondDigit_21 rfl rfl rfl (Nat.le_of_ble_eq_true rfl) rfl ?_
  refine pm_iconst (v := 1) dX6_readsSecondDigit_24 (by decide) ?_
  refine pm_zret dX6_readsSecondDigit_25 rfl rfl rfl rfl ?_
  obtain ⟨e, he1, he2, rfl⟩ := th_dgN hd
  obtain ⟨mz, rfl⟩ : ∃ mz, mm = mz + 1 := ⟨mm - 1, by omega⟩
  rw [Nat.add_sub_cancel] at ed
  have h2 := h1 (1, mz + 1, upd f (mz + 1 - 1) (10 * f (mz + 1 - 1) + nI e - 48), t) (upd X 0 2) (upd y 7 (y 7 + (9 * f (mz + 1 - 1) + nI e - 48))) (th_go2 hd)
  exact h2 ⟨rfl, hx1, fun e => absurd e (by simp), th_RD_2 hD hdd ed he1 he2, fun e => absurd e (by simp)⟩

set_option maxHeartbeats 600000 in
set_option maxRecDepth 100000 in
theorem c_X6_readsSign {l : Launch} {G : pm_G} {ad : Nat → Nat → Nat} {S : Nat → Nat} {A : Nat → Nat → Int32} {X : Nat → Int32} {Y : Nat → Nat → Int32} {F : Nat → Int64} {Hd Cs : Nat → Option Nat} {m : List pm_A} {y : Nat → Int32} {Q : pm_T} {mm : Nat} {f : Nat → Int32} {t c : Int32} {st : Nat} (hst : st = 1 ∨ st = 2) (hx : ¬ (st = 2 ∧ th_dg c)) (hm : mm ≤ 4) (hx1 : X 1 = nI mm) (hD : th_RD f mm y) (h1 : ∀ p X2 y2, th_go (st, mm, f, t) c = some p → th_RC p X2 y2 → Q ad (some (.int 1)) (th_cw ad S A X2 (va_up Y 1 y2) F Hd Cs m)) (h0 : ∀ X2 y2, th_go (st, mm, f, t) c = none → Q ad (some (.int 0)) (th_cw ad S A X2 (va_up Y 1 y2) F Hd Cs m)) : pm_C l G m_X6_readsSign [.ref (ad 3 0), .int c] ad (th_cw ad S A X (va_up Y 1 y) F Hd Cs m) Q := by
  refine pm_met (by decide) (Nat.le_of_ble_eq_true rfl) ?_
  refine pm_iload_n dX6_readsSign_0 rfl rfl ?_
  refine pm_bipush (v := 43) dX6_readsSign_1 (by decide) ?_
  refine pm_icmp_ne (tgt := 21) dX6_readsSign_3 (by decide) (fun c_3 => ?_) (fun c_3 => ?_)
  · refine pm_aload_n dX6_readsSign_21 rfl rfl ?_
    refine pm_iconst (v := 3) dX6_readsSign_22 (by decide) ?_
    refine pm_put (w2 := (_, _, _, [.inr (_, [_, _, _, _, _, _]), _, _], _, _, _, _, _)) fl_RX6_34_6 fp_6_3 dX6_readsSign_23 rfl rfl rfl (Nat.le_of_ble_eq_true rfl) rfl ?_
    refine pm_iload_n dX6_readsSign_26 rfl rfl ?_
    refine pm_bipush (v := 59) dX6_readsSign_27 (by decide) ?_
    refine pm_icmp_ne (tgt := 36) dX6_readsSign_29 (by decide) (fun c_29 => ?_) (fun c_29 => ?_)
    · refine pm_iconst (v := 0) dX6_readsSign_36 (by decide) ?_
      refine pm_zret dX6_readsSign_37 rfl rfl rfl rfl ?_
      refine h0 (upd X 0 3) y ?_
      rw [th_go12 hst hx, if_neg c_29, if_neg (fun z => c_3 z.1)]
    · refine pm_iconst (v := 1) dX6_readsSign_32 (by decide) ?_
      refine pm_goto (tgt := 37) dX6_readsSign_33 (by decide) ?_
      refine pm_zret dX6_readsSign_37 rfl rfl rfl rfl ?_
      refine h1 (3, mm, f, t) (upd X 0 3) y ?_ ⟨rfl, hx1, fun e => absurd e (by simp), hD, fun e => absurd e (by simp)⟩
      rw [th_go12 hst hx, if_pos c_29]
  · refine pm_aload_n dX6_readsSign_6 rfl rfl ?_
    refine pm_get fl_RX6_37_6 dX6_readsSign_7 rfl rfl ?_
    rw [hx1]
    refine pm_iconst (v := 4) dX6_readsSign_10 (by decide) ?_
    refine pm_icmp_ge (tgt := 21) dX6_readsSign_11 (by decide) (fun c_11 => ?_) (fun c_11 => ?_)
    · refine pm_aload_n dX6_readsSign_21 rfl rfl ?_
      refine pm_iconst (v := 3) dX6_readsSign_22 (by decide) ?_
      refine pm_put (w2 := (_, _, _, [.inr (_, [_, _, _, _, _, _]), _, _], _, _, _, _, _)) fl_RX6_34_6 fp_6_3 dX6_readsSign_23 rfl rfl rfl (Nat.le_of_ble_eq_true rfl) rfl ?_
      refine pm_iload_n dX6_readsSign_26 rfl rfl ?_
      refine pm_bipush (v := 59) dX6_readsSign_27 (by decide) ?_
      refine pm_icmp_ne (tgt := 36) dX6_readsSign_29 (by decide) (fun c_29 => ?_) (fun c_29 => absurd c_29 (by rw [c_3]; decide))
      refine pm_iconst (v := 0) dX6_readsSign_36 (by decide) ?_
      refine pm_zret dX6_readsSign_37 rfl rfl rfl rfl ?_
      refine h0 (upd X 0 3) y ?_
      rw [th_go12 hst hx, if_neg (by rw [c_3]; decide), if_neg (fun z => absurd ((nI_leI (a := 4) (by decide) (by omega)).mp c_11) (by omega))]
    · refine pm_aload_n dX6_readsSign_14 rfl rfl ?_
      refine pm_iconst (v := 0) dX6_readsSign_15 (by decide) ?_
      refine pm_put (w2 := (_, _, _, [.inr (_, [_, _, _, _, _, _]), _, _], _, _, _, _, _)) fl_RX6_34_6 fp_6_3 dX6_readsSign_16 rfl rfl rfl (Nat.le_of_ble_eq_true rfl) rfl ?_
      refine pm_iconst (v := 1) dX6_readsSign_19 (by decide) ?_
      refine pm_zret dX6_readsSign_20 rfl rfl rfl rfl ?_
      have hcd : c = 43 ∧ mm < 4 := ⟨c_3, Nat.lt_of_not_le (fun z => c_11 ((nI_leI (a := 4) (by decide) (by omega)).mpr z))⟩
      refine h1 (0, mm, f, t) (upd X 0 0) y ?_ ⟨rfl, hx1, fun e => absurd e (by simp), hD, fun e => absurd e (by simp)⟩
      rw [th_go12 hst hx, if_neg (by rw [c_3]; decide), if_pos hcd]

set_option maxHeartbeats 600000 in
set_option maxRecDepth 100000 in
theorem g_rd0 {l : Launch} {G : pm_G} {ad : Nat → Nat → Nat} {S : Nat → Nat} {A : Nat → Nat → Int32} {X : Nat → Int32} {Y : Nat → Nat → Int32} {F : Nat → Int64} {Hd Cs : Nat → Option Nat} {m : List pm_A} {y : Nat → Int32} {Q : pm_T} {mm : Nat} {f : Nat → Int32} {t c : Int32} (hx0 : X 0 = nI 0) (hx1 : X 1 = nI mm) (hD : th_RD f mm y) (h1 : ∀ p X2 y2, th_go (0, mm, f, t) c = some p → th_RC p X2 y2 → Q ad (some (.int 1)) (th_cw ad S A X2 (va_up Y 1 y2) F Hd Cs m)) (h0 : ∀ X2 y2, th_go (0, mm, f, t) c = none → Q ad (some (.int 0)) (th_cw ad S A X2 (va_up Y 1 y2) F Hd Cs m)) : pm_C l G m_X6_reads [.ref (ad 3 0), .int c] ad (th_cw ad S A X (va_up Y 1 y) F Hd Cs m) Q := by
  refine pm_met (by decide) (Nat.le_of_ble_eq_true rfl) ?_
  refine pm_aload_n dX6_reads_0 rfl rfl ?_
  refine pm_get fl_RX6_34_6 dX6_reads_1 rfl rfl ?_
  rw [hx0]
  refine pm_tableIn (off := 32) (tgt := 36) dX6_reads_4 (by decide) (by decide) (by decide) (by decide) ?_
  refine pm_aload_n dX6_reads_36 rfl rfl ?_
  refine pm_iload_n dX6_reads_37 rfl rfl ?_
  refine pm_callV (M2 := m_X6_readsTerm) (As := [_]) ok_X6_readsTerm (ci := 6) rfl kw_313 kw_315 kw_1 dX6_reads_38 rfl rfl rfl (Nat.le_of_ble_eq_true rfl) ⟨⟨Nat.le_of_ble_eq_true rfl, Nat.le_of_ble_eq_true rfl⟩, Nat.le_of_ble_eq_true rfl, Nat.le_of_ble_eq_true rfl⟩ ?_
  refine c_X6_readsTerm (t := t) hx1 hD (fun p X2 y2 hg hR => ?_) (fun X2 y2 hg => ?_)
  · refine pm_zret dX6_reads_41 rfl rfl rfl rfl ?_
    exact h1 p X2 y2 hg hR
  · refine pm_zret dX6_reads_41 rfl rfl rfl rfl ?_
    exact h0 X2 y2 hg

set_option maxHeartbeats 600000 in
set_option maxRecDepth 100000 in
theorem g_rd1 {l : Launch} {G : pm_G} {ad : Nat → Nat → Nat} {S : Nat → Nat} {A : Nat → Nat → Int32} {X : Nat → Int32} {Y : Nat → Nat → Int32} {F : Nat → Int64} {Hd Cs : Nat → Option Nat} {m : List pm_A} {y : Nat → Int32} {Q : pm_T} {mm : Nat} {f : Nat → Int32} {t c : Int32} (hm : mm ≤ 4) (hx0 : X 0 = nI 2) (hx1 : X 1 = nI mm) (hD : th_RD f mm y) (h1 : ∀ p X2 y2, th_go (1, mm, f, t) c = some p → th_RC p X2 y2 → Q ad (some (.int 1)) (th_cw ad S A X2 (va_up Y 1 y2) F Hd Cs m)) (h0 : ∀ X2 y2, th_go (1, mm, f, t) c = none → Q ad (some (.int 0)) (th_cw ad S A X2 (va_up Y 1 y2) F Hd Cs m)) : pm_C l G m_X6_reads [.ref (ad 3 0), .int c] ad (th_cw ad S A X (va_up Y 1 y) F Hd Cs m) Q := by
  refine pm_met (by decide) (Nat.le_of_ble_eq_true rfl) ?_
  refine pm_aload_n dX6_reads_0 rfl rfl ?_
  refine pm_get fl_RX6_34_6 dX6_reads_1 rfl rfl ?_
  rw [hx0]
  refine pm_tableIn (off := 59) (tgt := 63) dX6_reads_4 (by decide) (by decide) (by decide) (by decide) ?_
  refine pm_aload_n dX6_reads_63 rfl rfl ?_
  refine pm_iload_n dX6_reads_64 rfl rfl ?_
  refine pm_callV (M2 := m_X6_readsSign) (As := [_]) ok_X6_readsSign (ci := 6) rfl kw_332 kw_334 kw_3 dX6_reads_65 rfl rfl rfl (Nat.le_of_ble_eq_true rfl) ⟨⟨Nat.le_of_ble_eq_true rfl, Nat.le_of_ble_eq_true rfl⟩, Nat.le_of_ble_eq_true rfl, Nat.le_of_ble_eq_true rfl⟩ ?_
  refine c_X6_readsSign (t := t) (Or.inl rfl) (fun z => absurd z.1 (by decide)) hm hx1 hD (fun p X2 y2 hg hR => ?_) (fun X2 y2 hg => ?_)
  · refine pm_zret dX6_reads_68 rfl rfl rfl rfl ?_
    exact h1 p X2 y2 hg hR
  · refine pm_zret dX6_reads_68 rfl rfl rfl rfl ?_
    exact h0 X2 y2 hg

set_option maxHeartbeats 600000 in
set_option maxRecDepth 100000 in
theorem g_rd2 {l : Launch} {G : pm_G} {ad : Nat → Nat → Nat} {S : Nat → Nat} {A : Nat → Nat → Int32} {X : Nat → Int32} {Y : Nat → Nat → Int32} {F : Nat → Int64} {Hd Cs : Nat → Option Nat} {m : List pm_A} {y : Nat → Int32} {Q : pm_T} {mm : Nat} {f : Nat → Int32} {t c : Int32} {d : Nat} (hm1 : 1 ≤ mm) (hdd : d ≤ 9) (ed : f (mm - 1) = nI d) (hx2 : X 2 = f (mm - 1)) (hm : mm ≤ 4) (hx0 : X 0 = nI 1) (hx1 : X 1 = nI mm) (hD : th_RD f mm y) (h1 : ∀ p X2 y2, th_go (2, mm, f, t) c = some p → th_RC p X2 y2 → Q ad (some (.int 1)) (th_cw ad S A X2 (va_up Y 1 y2) F Hd Cs m)) (h0 : ∀ X2 y2, th_go (2, mm, f, t) c = none → Q ad (some (.int 0)) (th_cw ad S A X2 (va_up Y 1 y2) F Hd Cs m)) : pm_C l G m_X6_reads [.ref (ad 3 0), .int c] ad (th_cw ad S A X (va_up Y 1 y) F Hd Cs m) Q := by
  refine pm_met (by decide) (Nat.le_of_ble_eq_true rfl) ?_
  refine pm_aload_n dX6_reads_0 rfl rfl ?_
  refine pm_get fl_RX6_34_6 dX6_reads_1 rfl rfl ?_
  rw [hx0]
  refine pm_tableIn (off := 38) (tgt := 42) dX6_reads_4 (by decide) (by decide) (by decide) (by decide) ?_
  refine pm_iload_n dX6_reads_42 rfl rfl ?_
  refine pm_callS (M2 := m_X6_isDigit) (As := [_]) ok_X6_isDigit kw_317 kw_318 dX6_reads_43 rfl rfl (Nat.le_of_ble_eq_true rfl) ⟨⟨Nat.le_of_ble_eq_true rfl, Nat.le_of_ble_eq_true rfl⟩, Nat.le_of_ble_eq_true rfl, Nat.le_of_ble_eq_true rfl⟩ ?_
  refine c_X6_isDigit (fun hd => ?_) (fun hd => ?_)
  · refine pm_if_eq (tgt := 57) dX6_reads_46 (by decide) (fun c_46 => absurd c_46 (by decide)) (fun c_46 => ?_)
    refine pm_aload_n dX6_reads_49 rfl rfl ?_
    refine pm_iload_n dX6_reads_50 rfl rfl ?_
    refine pm_callV (M2 := m_X6_readsSecondDigit) (As := [_]) ok_X6_readsSecondDigit (ci := 6) rfl kw_328 kw_330 kw_2 dX6_reads_51 rfl rfl rfl (Nat.le_of_ble_eq_true rfl) ⟨⟨Nat.le_of_ble_eq_true rfl, Nat.le_of_ble_eq_true rfl⟩, Nat.le_of_ble_eq_true rfl, Nat.le_of_ble_eq_true rfl⟩ ?_
    refine c_X6_readsSecondDigit (t := t) hd hm1 hdd ed hx1 hx2 hD (fun p X2 y2 hg hR => ?_)
    refine pm_goto (tgt := 62) dX6_reads_54 (by decide) ?_
    refine pm_zret dX6_reads_62 rfl rfl rfl rfl ?_
    exact h1 p X2 y2 hg hR
  · refine pm_if_eq (tgt := 57) dX6_reads_46 (by decide) (fun c_46 => ?_) (fun c_46 => absurd (rfl) c_46)
    refine pm_aload_n dX6_reads_57 rfl rfl ?_
    refine pm_iload_n dX6_reads_58 rfl rfl ?_
    refine pm_callV (M2 := m_X6_readsSign) (As := [_]) ok_X6_readsSign (ci := 6) rfl kw_332 kw_334 kw_3 dX6_reads_59 rfl rfl rfl (Nat.le_of_ble_eq_true rfl) ⟨⟨Nat.le_of_ble_eq_true rfl, Nat.le_of_ble_eq_true rfl⟩, Nat.le_of_ble_eq_true rfl, Nat.le_of_ble_eq_true rfl⟩ ?_
    refine c_X6_readsSign (t := t) (Or.inr rfl) (fun z => hd z.2) hm hx1 hD (fun p X2 y2 hg hR => ?_) (fun X2 y2 hg => ?_)
    · refine pm_zret dX6_reads_62 rfl rfl rfl rfl ?_
      exact h1 p X2 y2 hg hR
    · refine pm_zret dX6_reads_62 rfl rfl rfl rfl ?_
      exact h0 X2 y2 hg

set_option maxHeartbeats 600000 in
set_option maxRecDepth 100000 in
theorem g_rd3 {l : Launch} {G : pm_G} {ad : Nat → Nat → Nat} {S : Nat → Nat} {A : Nat → Nat → Int32} {X : Nat → Int32} {Y : Nat → Nat → Int32} {F : Nat → Int64} {Hd Cs : Nat → Option Nat} {m : List pm_A} {y : Nat → Int32} {Q : pm_T} {mm : Nat} {f : Nat → Int32} {t c : Int32} (hx0 : X 0 = nI 3) (hx1 : X 1 = nI mm) (hD : th_RD f mm y) (h1 : ∀ p X2 y2, th_go (3, mm, f, t) c = some p → th_RC p X2 y2 → Q ad (some (.int 1)) (th_cw ad S A X2 (va_up Y 1 y2) F Hd Cs m)) (h0 : ∀ X2 y2, th_go (3, mm, f, t) c = none → Q ad (some (.int 0)) (th_cw ad S A X2 (va_up Y 1 y2) F Hd Cs m)) : pm_C l G m_X6_reads [.ref (ad 3 0), .int c] ad (th_cw ad S A X (va_up Y 1 y) F Hd Cs m) Q := by
  refine pm_met (by decide) (Nat.le_of_ble_eq_true rfl) ?_
  refine pm_aload_n dX6_reads_0 rfl rfl ?_
  refine pm_get fl_RX6_34_6 dX6_reads_1 rfl rfl ?_
  rw [hx0]
  refine pm_tableIn (off := 65) (tgt := 69) dX6_reads_4 (by decide) (by decide) (by decide) (by decide) ?_
  refine pm_aload_n dX6_reads_69 rfl rfl ?_
  refine pm_iconst (v := 4) dX6_reads_70 (by decide) ?_
  refine pm_put (w2 := (_, _, _, [.inr (_, [_, _, _, _, _, _]), _, _], _, _, _, _, _)) fl_RX6_34_6 fp_6_3 dX6_reads_71 rfl rfl rfl (Nat.le_of_ble_eq_true rfl) rfl ?_
  refine pm_aload_n dX6_reads_74 rfl rfl ?_
  refine pm_get fl_RX6_18_6 dX6_reads_75 rfl rfl ?_
  refine pm_iload_n dX6_reads_78 rfl rfl ?_
  refine pm_callV (M2 := m_X10_takesTangles) (As := [_]) ok_X10_takesTangles (ci := 10) rfl kw_336 kw_337 kw_338 dX6_reads_79 rfl rfl rfl (Nat.le_of_ble_eq_true rfl) ⟨⟨Nat.le_of_ble_eq_true rfl, Nat.le_of_ble_eq_true rfl⟩, Nat.le_of_ble_eq_true rfl, Nat.le_of_ble_eq_true rfl⟩ ?_
  refine c_X10_takesTangles (X := upd X 0 4) (fun ht => ?_) (fun ht => ?_)
  · refine pm_zret dX6_reads_82 rfl rfl rfl rfl ?_
    exact h1 (4, mm, f, c) (upd X 0 4) (upd y 1 c) (th_go3 ht) ⟨rfl, hx1, fun e => absurd e (by simp), hD, fun _ => rfl⟩
  · refine pm_zret dX6_reads_82 rfl rfl rfl rfl ?_
    exact h0 (upd X 0 4) (upd y 1 c) (th_go3n ht)

set_option maxHeartbeats 600000 in
set_option maxRecDepth 100000 in
theorem g_rd4 {l : Launch} {G : pm_G} {ad : Nat → Nat → Nat} {S : Nat → Nat} {A : Nat → Nat → Int32} {X : Nat → Int32} {Y : Nat → Nat → Int32} {F : Nat → Int64} {Hd Cs : Nat → Option Nat} {m : List pm_A} {y : Nat → Int32} {Q : pm_T} {mm : Nat} {f : Nat → Int32} {t c : Int32} (hx0 : X 0 = nI 4) (h0 : ∀ X2 y2, th_go (4, mm, f, t) c = none → Q ad (some (.int 0)) (th_cw ad S A X2 (va_up Y 1 y2) F Hd Cs m)) : pm_C l G m_X6_reads [.ref (ad 3 0), .int c] ad (th_cw ad S A X (va_up Y 1 y) F Hd Cs m) Q := by
  refine pm_met (by decide) (Nat.le_of_ble_eq_true rfl) ?_
  refine pm_aload_n dX6_reads_0 rfl rfl ?_
  refine pm_get fl_RX6_34_6 dX6_reads_1 rfl rfl ?_
  rw [hx0]
  refine pm_tableOut (tgt := 83) dX6_reads_4 (by decide) (by decide) ?_
  refine pm_iconst (v := 0) dX6_reads_83 (by decide) ?_
  refine pm_zret dX6_reads_84 rfl rfl rfl rfl ?_
  exact h0 X y th_go4

theorem c_X6_reads {l : Launch} {G : pm_G} {ad : Nat → Nat → Nat} {S : Nat → Nat} {A : Nat → Nat → Int32} {X : Nat → Int32} {Y : Nat → Nat → Int32} {F : Nat → Int64} {Hd Cs : Nat → Option Nat} {m : List pm_A} {y : Nat → Int32} {Q : pm_T} {p : th_P} {c : Int32} (hp : th_PI p) (hR : th_RC p X y) (h1 : ∀ q X2 y2, th_go p c = some q → th_RC q X2 y2 → Q ad (some (.int 1)) (th_cw ad S A X2 (va_up Y 1 y2) F Hd Cs m)) (h0 : ∀ X2 y2, th_go p c = none → Q ad (some (.int 0)) (th_cw ad S A X2 (va_up Y 1 y2) F Hd Cs m)) : pm_C l G m_X6_reads [.ref (ad 3 0), .int c] ad (th_cw ad S A X (va_up Y 1 y) F Hd Cs m) Q := by
  obtain ⟨st, mm, f, t⟩ := p
  obtain ⟨p1, p2, p3, p4, p5, -⟩ := hp
  obtain ⟨r1, r2, r3, r4, r5⟩ := hR
  have p1 : st ≤ 4 := p1
  have p2 : mm ≤ 4 := p2
  rcases (show st = 0 ∨ st = 1 ∨ st = 2 ∨ st = 3 ∨ st = 4 by omega) with rfl | rfl | rfl | rfl | rfl
  · exact g_rd0 r1 r2 r4 h1 h0
  · exact g_rd1 p2 r1 r2 r4 h1 h0
  · obtain ⟨d, -, hd9, ed⟩ := p5 rfl
    exact g_rd2 (p4 (by simp)) hd9 ed (r3 rfl) p2 r1 r2 r4 h1 h0
  · exact g_rd3 r1 r2 r4 h1 h0
  · exact g_rd4 r1 h0
set_option maxHeartbeats 600000 in
set_option maxRecDepth 100000 in
theorem c_X6_firstFault {l : Launch} {G : pm_G} {ad : Nat → Nat → Nat} {S : Nat → Nat} {A : Nat → Nat → Int32} {X : Nat → Int32} {Y : Nat → Nat → Int32} {F : Nat → Int64} {Hd Cs : Nat → Option Nat} {m : List pm_A} {Q : pm_T} (hI : th_I S A) (h1 : ∀ p X2 y2, th_ru A (S 1) = some p → th_RC p X2 y2 → Q ad (some (.int (nI (S 1)))) (th_cw ad S A X2 (va_up Y 1 y2) F Hd Cs m)) (h0 : ∀ k X2 y2, k < S 1 → th_ru A (S 1) = none → th_fp A (S 1) = k → Q ad (some (.int (nI k))) (th_cw ad S A X2 (va_up Y 1 y2) F Hd Cs m)) : pm_C l G m_X6_firstFault [.ref (ad 3 0)] ad (th_cw ad S A X Y F Hd Cs m) Q := by
  have h20 := hI.1.1
  refine pm_met (by decide) (Nat.le_of_ble_eq_true rfl) ?_
  refine pm_aload_n dX6_firstFault_0 rfl rfl ?_
  refine pm_iconst (v := 0) dX6_firstFault_1 (by decide) ?_
  refine pm_put (w2 := (_, _, _, [.inr (_, [_, _, _, _, _, _]), _, _], _, _, _, _, _)) fl_RX6_34_6 fp_6_3 dX6_firstFault_2 rfl rfl rfl (Nat.le_of_ble_eq_true rfl) rfl ?_
  refine pm_aload_n dX6_firstFault_5 rfl rfl ?_
  refine pm_iconst (v := 0) dX6_firstFault_6 (by decide) ?_
  refine pm_put (w2 := (_, _, _, [.inr (_, [_, _, _, _, _, _]), _, _], _, _, _, _, _)) fl_RX6_37_6 fp_6_4 dX6_firstFault_7 rfl rfl rfl (Nat.le_of_ble_eq_true rfl) rfl ?_
  refine pm_aload_n dX6_firstFault_10 rfl rfl ?_
  refine pm_get fl_RX6_18_6 dX6_firstFault_11 rfl rfl ?_
  refine pm_callV (M2 := m_X10_forget) (As := []) ok_X10_forget (ci := 10) rfl kw_305 kw_306 kw_307 dX6_firstFault_14 rfl rfl rfl (Nat.le_of_ble_eq_true rfl) ⟨⟨Nat.le_of_ble_eq_true rfl, Nat.le_of_ble_eq_true rfl⟩, Nat.le_of_ble_eq_true rfl, Nat.le_of_ble_eq_true rfl⟩ ?_
  refine c_X10_forget (X := upd (upd X 0 0) 1 0) (Y := Y) (y := Y 1) ?_
  refine pm_iconst (v := 0) dX6_firstFault_17 (by decide) ?_
  refine pm_istore_n (lv2 := [(1, _), (0, _)]) dX6_firstFault_18 rfl (Nat.le_of_ble_eq_true rfl) rfl ?_
  suffices H : ∀ k, k ≤ S 1 → ∀ p X y, th_ru A k = some p → th_RC p X y → pm_W l G m_X6_firstFault ad 19 [(1, .int (nI k)), (0, .ref (ad 3 0))] [] (th_cw ad S A X (va_up Y 1 y) F Hd Cs m) 0 0 Q from H 0 (Nat.zero_le _) (0, 0, fun _ => 0, 0) (upd (upd X 0 0) 1 0) (upd (upd (upd (upd (upd (upd (Y 1) 2 0) 3 0) 4 0) 5 0) 6 0) 7 0) rfl ⟨rfl, rfl, fun e => absurd e (by simp), ⟨rfl, rfl, rfl, rfl, rfl, rfl⟩, fun e => absurd e (by simp)⟩
  refine th_loop _ ?_
  intro k hk kk p X y hp hR
  refine pm_iload_n dX6_firstFault_19 rfl rfl ?_
  refine pm_aload_n dX6_firstFault_20 rfl rfl ?_
  refine pm_get fl_RX6_26_6 dX6_firstFault_21 rfl rfl ?_
  refine pm_icmp_ge (tgt := 57) dX6_firstFault_24 (by decide) (fun c_24 => ?_) (fun c_24 => ?_)
  · refine pm_aload_n dX6_firstFault_57 rfl rfl ?_
    refine pm_get fl_RX6_26_6 dX6_firstFault_58 rfl rfl ?_
    refine pm_iret dX6_firstFault_61 rfl rfl rfl ?_
    have he : k = S 1 := by
      rw [nI_leI (by omega) (by omega)] at c_24
      omega
    subst he
    exact h1 p X y hp hR
  · have hlt : k < S 1 := by
      rw [nI_leI (by omega) (by omega)] at c_24
      omega
    refine pm_iload_n dX6_firstFault_27 rfl rfl ?_
    refine pm_aload_n dX6_firstFault_28 rfl rfl ?_
    refine pm_get fl_RX6_9_6 dX6_firstFault_29 rfl rfl ?_
    refine pm_alen (by decide) dX6_firstFault_32 rfl ?_
    show pm_W _ _ _ _ _ _ (.int (nI 20) :: _) _ _ _ _
    refine pm_icmp_ge (tgt := 57) dX6_firstFault_33 (by decide) (fun c_33 => absurd c_33 (by rw [nI_leI (by decide) (by omega)]; omega)) (fun c_33 => ?_)
    refine pm_aload_n dX6_firstFault_36 rfl rfl ?_
    refine pm_aload_n dX6_firstFault_37 rfl rfl ?_
    refine pm_get fl_RX6_9_6 dX6_firstFault_38 rfl rfl ?_
    refine pm_iload_n dX6_firstFault_41 rfl rfl ?_
    refine pm_iald dX6_firstFault_42 rfl (th_in (by omega) (by decide)) ?_
    rw [th_cl (by omega)]
    refine pm_callV (M2 := m_X6_reads) (As := [_]) ok_X6_reads (ci := 6) rfl kw_309 kw_311 kw_0 dX6_firstFault_43 rfl rfl rfl (Nat.le_of_ble_eq_true rfl) ⟨⟨Nat.le_of_ble_eq_true rfl, Nat.le_of_ble_eq_true rfl⟩, Nat.le_of_ble_eq_true rfl, Nat.le_of_ble_eq_true rfl⟩ ?_
    refine c_X6_reads (th_ru_PI k p hp) hR (fun q X2 y2 hg hR2 => ?_) (fun X2 y2 hg => ?_)
    · refine pm_if_ne (tgt := 51) dX6_firstFault_46 (by decide) (fun c_46 => ?_) (fun c_46 => absurd c_46 (by decide))
      refine pm_iinc (lv2 := [(1, _), (0, _)]) dX6_firstFault_51 rfl (nI_1 k) (Nat.le_of_ble_eq_true rfl) rfl ?_
      refine pm_goto (tgt := 19) dX6_firstFault_54 (by decide) ?_
      refine pm_pick [0, 1] rfl ?_
      exact kk hlt q X2 y2 ((th_ru_s hp).trans hg) hR2
    · refine pm_if_ne (tgt := 51) dX6_firstFault_46 (by decide) (fun c_46 => absurd (rfl) c_46) (fun c_46 => ?_)
      refine pm_iload_n dX6_firstFault_49 rfl rfl ?_
      refine pm_iret dX6_firstFault_50 rfl rfl rfl ?_
      exact h0 k X2 y2 hlt (th_ru_none ((th_ru_s hp).trans hg) _ hlt) (th_fp_k hp ((th_ru_s hp).trans hg) _ hlt)

set_option maxHeartbeats 600000 in
set_option maxRecDepth 100000 in
theorem c_X11_fault {l : Launch} {G : pm_G} {ad : Nat → Nat → Nat} {S : Nat → Nat} {A : Nat → Nat → Int32} {X : Nat → Int32} {Y : Nat → Nat → Int32} {F : Nat → Int64} {Hd Cs : Nat → Option Nat} {m : List pm_A} {Q : pm_T} (hI : th_I S A) (hQ : ∀ X2 y2, Q ad (some (.int (nI (th_fp A (S 1))))) (th_cw ad S A X2 (va_up Y 1 y2) F Hd Cs m)) : pm_C l G m_X11_fault [.ref (ad 0 0)] ad (th_cw ad S A X Y F Hd Cs m) Q := by
  refine pm_met (by decide) (Nat.le_of_ble_eq_true rfl) ?_
  refine pm_aload_n dX11_fault_0 rfl rfl ?_
  refine pm_get fl_RX11_12_11 dX11_fault_1 rfl rfl ?_
  refine pm_callV (M2 := m_X6_firstFault) (As := []) ok_X6_firstFault (ci := 6) rfl kw_301 kw_302 kw_303 dX11_fault_4 rfl rfl rfl (Nat.le_of_ble_eq_true rfl) ⟨⟨Nat.le_of_ble_eq_true rfl, Nat.le_of_ble_eq_true rfl⟩, Nat.le_of_ble_eq_true rfl, Nat.le_of_ble_eq_true rfl⟩ ?_
  refine c_X6_firstFault hI (fun p X2 y2 hp hR => ?_) (fun k X2 y2 hk hn hf => ?_)
  · refine pm_iret dX11_fault_7 rfl rfl rfl ?_
    refine th_r ?_ (hQ X2 y2)
    rw [th_fp_all hp]
  · refine pm_iret dX11_fault_7 rfl rfl rfl ?_
    refine th_r ?_ (hQ X2 y2)
    rw [hf]

set_option maxHeartbeats 600000 in
set_option maxRecDepth 100000 in
theorem c_X6_isSchool {l : Launch} {G : pm_G} {ad : Nat → Nat → Nat} {S : Nat → Nat} {A : Nat → Nat → Int32} {X : Nat → Int32} {Y : Nat → Nat → Int32} {F : Nat → Int64} {Hd Cs : Nat → Option Nat} {m : List pm_A} {Q : pm_T} (hI : th_I S A) (h1 : ∀ p X2 y2, th_ru A (S 1) = some p → p.1 = 4 → th_RC p X2 y2 → Q ad (some (.int 1)) (th_cw ad S A X2 (va_up Y 1 y2) F Hd Cs m)) (h0 : ∀ X2 y2, (∀ p, th_ru A (S 1) = some p → ¬ p.1 = 4) → Q ad (some (.int 0)) (th_cw ad S A X2 (va_up Y 1 y2) F Hd Cs m)) : pm_C l G m_X6_isSchool [.ref (ad 3 0)] ad (th_cw ad S A X Y F Hd Cs m) Q := by
  have h20 := hI.1.1
  refine pm_met (by decide) (Nat.le_of_ble_eq_true rfl) ?_
  refine pm_aload_n dX6_isSchool_0 rfl rfl ?_
  refine pm_callV (M2 := m_X6_firstFault) (As := []) ok_X6_firstFault (ci := 6) rfl kw_348 kw_302 kw_303 dX6_isSchool_1 rfl rfl rfl (Nat.le_of_ble_eq_true rfl) ⟨⟨Nat.le_of_ble_eq_true rfl, Nat.le_of_ble_eq_true rfl⟩, Nat.le_of_ble_eq_true rfl, Nat.le_of_ble_eq_true rfl⟩ ?_
  refine c_X6_firstFault hI (fun p X2 y2 hp hR => ?_) (fun k X2 y2 hk hn hf => ?_)
  · have hpi := (th_ru_PI _ p hp).1
    have haw : th_aw p.1 ≤ 4 ∧ (th_aw p.1 = 4 ↔ p.1 = 4) := by
      unfold th_aw
      by_cases e1 : p.1 = 1
      · rw [if_pos e1]; omega
      · rw [if_neg e1]
        by_cases e2 : p.1 = 2
        · rw [if_pos e2]; omega
        · rw [if_neg e2]; omega
    refine pm_aload_n dX6_isSchool_4 rfl rfl ?_
    refine pm_get fl_RX6_26_6 dX6_isSchool_5 rfl rfl ?_
    refine pm_icmp_ne (tgt := 23) dX6_isSchool_8 (by decide) (fun c_8 => absurd (rfl) c_8) (fun c_8 => ?_)
    refine pm_aload_n dX6_isSchool_11 rfl rfl ?_
    refine pm_get fl_RX6_34_6 dX6_isSchool_12 rfl rfl ?_
    rw [hR.1]
    refine pm_iconst (v := 4) dX6_isSchool_15 (by decide) ?_
    refine pm_icmp_ne (tgt := 23) dX6_isSchool_16 (by decide) (fun c_16 => ?_) (fun c_16 => ?_)
    · refine pm_iconst (v := 0) dX6_isSchool_23 (by decide) ?_
      refine pm_zret dX6_isSchool_24 rfl rfl rfl rfl ?_
      exact h0 X2 y2 (fun q hq e => by
        cases hp.symm.trans hq
        exact c_16 (by rw [haw.2.mpr e]; rfl))
    · refine pm_iconst (v := 1) dX6_isSchool_19 (by decide) ?_
      refine pm_goto (tgt := 24) dX6_isSchool_20 (by decide) ?_
      refine pm_zret dX6_isSchool_24 rfl rfl rfl rfl ?_
      exact h1 p X2 y2 hp (haw.2.mp ((nI_eq (b := 4) (by omega) (by decide)).mp c_16)) hR
  · refine pm_aload_n dX6_isSchool_4 rfl rfl ?_
    refine pm_get fl_RX6_26_6 dX6_isSchool_5 rfl rfl ?_
    refine pm_icmp_ne (tgt := 23) dX6_isSchool_8 (by decide) (fun c_8 => ?_) (fun c_8 => absurd c_8 (fun e => absurd ((nI_eq (by omega) (by omega)).mp e) (by omega)))
    refine pm_iconst (v := 0) dX6_isSchool_23 (by decide) ?_
    refine pm_zret dX6_isSchool_24 rfl rfl rfl rfl ?_
    exact h0 X2 y2 (fun p hp => absurd (hn.symm.trans hp) (by simp))

