def th_pf (f g : Nat → Int32) (n : Nat) : Nat → Int32 := fun q => if q < n then f q else g q
theorem th_pf0 (f g : Nat → Int32) : th_pf f g 0 = g := funext fun q => if_neg (Nat.not_lt_zero q)
theorem th_pfs (f g : Nat → Int32) (n : Nat) : upd (th_pf f g n) n (f n) = th_pf f g (n + 1) := by
  funext q
  unfold upd th_pf
  by_cases e : q = n
  · rw [if_pos e, if_pos (by omega), e]
  · rw [if_neg e]
    by_cases h : q < n
    · rw [if_pos h, if_pos (by omega)]
    · rw [if_neg h, if_neg (by omega)]
theorem th_vu2 {f : Nat → Option pm_A} {i : Nat} {a b : Option pm_A} : va_up (va_up f i a) i b = va_up f i b := by
  funext q
  unfold va_up
  by_cases e : q = i
  · rw [if_pos e, if_pos e]
  · rw [if_neg e, if_neg e, if_neg e]
theorem th_u4 {t : Nat → Int32} {i : Nat} {a b c d : Int32} {f0 f1 f2 f3 : Nat → Int32} (ht : ∀ q, q < i → t (4 * q) = f0 q ∧ t (4 * q + 1) = f1 q ∧ t (4 * q + 2) = f2 q ∧ t (4 * q + 3) = f3 q) (h0 : a = f0 i) (h1 : b = f1 i) (h2 : c = f2 i) (h3 : d = f3 i) : ∀ q, q < i + 1 → upd (upd (upd (upd t (4 * i) a) (4 * i + 1) b) (4 * i + 2) c) (4 * i + 3) d (4 * q) = f0 q ∧ upd (upd (upd (upd t (4 * i) a) (4 * i + 1) b) (4 * i + 2) c) (4 * i + 3) d (4 * q + 1) = f1 q ∧ upd (upd (upd (upd t (4 * i) a) (4 * i + 1) b) (4 * i + 2) c) (4 * i + 3) d (4 * q + 2) = f2 q ∧ upd (upd (upd (upd t (4 * i) a) (4 * i + 1) b) (4 * i + 2) c) (4 * i + 3) d (4 * q + 3) = f3 q := by
  intro q hq
  unfold upd
  by_cases e : q = i
  · subst e
    refine ⟨?_, ?_, ?_, ?_⟩
    · rw [if_neg (by omega), if_neg (by omega), if_neg (by omega), if_pos rfl, h0]
    · rw [if_neg (by omega), if_neg (by omega), if_pos rfl, h1]
    · rw [if_neg (by omega), if_pos rfl, h2]
    · rw [if_pos rfl, h3]
  · obtain ⟨g0, g1, g2, g3⟩ := ht q (by omega)
    refine ⟨?_, ?_, ?_, ?_⟩
    · rw [if_neg (by omega), if_neg (by omega), if_neg (by omega), if_neg (by omega), g0]
    · rw [if_neg (by omega), if_neg (by omega), if_neg (by omega), if_neg (by omega), g1]
    · rw [if_neg (by omega), if_neg (by omega), if_neg (by omega), if_neg (by omega), g2]
    · rw [if_neg (by omega), if_neg (by omega), if_neg (by omega), if_neg (by omega), g3]
theorem th_u2 {t : Nat → Int32} {i : Nat} {a b : Int32} {f0 f1 : Nat → Int32} (ht : ∀ q, q < i → t (2 * q) = f0 q ∧ t (2 * q + 1) = f1 q) (h0 : a = f0 i) (h1 : b = f1 i) : ∀ q, q < i + 1 → upd (upd t (2 * i) a) (2 * i + 1) b (2 * q) = f0 q ∧ upd (upd t (2 * i) a) (2 * i + 1) b (2 * q + 1) = f1 q := by
  intro q hq
  unfold upd
  by_cases e : q = i
  · subst e
    refine ⟨?_, ?_⟩
    · rw [if_neg (by omega), if_pos rfl, h0]
    · rw [if_pos rfl, h1]
  · obtain ⟨g0, g1⟩ := ht q (by omega)
    refine ⟨?_, ?_⟩
    · rw [if_neg (by omega), if_neg (by omega), g0]
    · rw [if_neg (by omega), if_neg (by omega), g1]
def th_imS (S : Nat → Nat) : Nat → Nat := va_up (va_up (va_up S 40 (S 11)) 41 (S 26)) 42 1
def th_im22 (A : Nat → Nat → Int32) (n : Nat) (t : Nat → Int32) : Prop := ∀ q, q < n → t (4 * q) = A 11 q ∧ t (4 * q + 1) = A 12 q ∧ t (4 * q + 2) = A 13 q ∧ t (4 * q + 3) = A 14 q
def th_im23 (A : Nat → Nat → Int32) (n : Nat) (u : Nat → Int32) : Prop := ∀ q, q < n → u (2 * q) = A 15 q ∧ u (2 * q + 1) = A 16 q
set_option maxHeartbeats 600000 in
set_option maxRecDepth 100000 in
theorem f_X12_image {l : Launch} {G : pm_G} {ad : Nat → Nat → Nat} {a0 a3 a4 a5 a6 a7 : List pm_A} {a1 a2 : Nat → Option pm_A} {S : Nat → Nat} {A : Nat → Nat → Int32} {s : Nat → Int32} {B : Nat → Nat → Int32} {hs : Int64} {Q : pm_T} {t : Nat → Int32} {z : Int32} (hQ : ∀ t u, th_im22 A 8 t → th_im23 A 10 u → Q ad (some (.int (nI (S 11)))) (a0, a1, a2, a3, a4, a5, a6, a7, th_mp ad (th_imS S) (va_up (va_up A 22 t) 23 u) s B hs)) (ht : th_im22 A 8 t) : pm_W l G m_X12_image ad 84 [(1, .int z), (0, .ref (ad 8 0))] [] (a0, a1, a2, a3, a4, a5, a6, a7, th_mp ad S (va_up A 22 t) s B hs) 0 0 Q := by
  refine pm_iconst (v := 0) dX12_image_84 (by decide) ?_
  refine pm_istore_n (lv2 := [(1, _), (0, _)]) dX12_image_85 rfl (Nat.le_of_ble_eq_true rfl) rfl ?_
  suffices H : ∀ i, i ≤ 10 → ∀ u : Nat → Int32, th_im23 A i u → pm_W l G m_X12_image ad 86 [(1, .int (nI i)), (0, .ref (ad 8 0))] [] (a0, a1, a2, a3, a4, a5, a6, a7, th_mp ad S (va_up (va_up A 22 t) 23 u) s B hs) 0 0 Q from H 0 (by decide) (A 23) (fun q hq => absurd hq (by omega))
  refine th_loop _ ?_
  intro i hi k u hu
  refine pm_iload_n dX12_image_86 rfl rfl ?_
  refine pm_bipush (v := 10) dX12_image_87 (by decide) ?_
  refine pm_icmp_ge (tgt := 128) dX12_image_89 (by decide) (fun c_89 => ?_) (fun c_89 => ?_)
  · refine pm_aload_n dX12_image_128 rfl rfl ?_
    refine pm_aload_n dX12_image_129 rfl rfl ?_
    refine pm_get fl_RX12_137_12 dX12_image_130 rfl rfl ?_
    refine pm_put (w2 := (_, _, _, _, _, _, _, _, [.inr (_, [_, _, _, _, _, _, _, _, _, _, _, _, _, _, _, _, _, _, _, _, _, _, _, _, _, _, _, _, _, _, _, _, _, _, _, _, _, _, _, _, _, _, _, _]), _, _, _, _, _, _, _, _, _, _, _, _, _, _, _, _, _, _, _, _, _, _, _])) fl_RX12_281_12 fp_12_40 dX12_image_133 rfl rfl rfl (Nat.le_of_ble_eq_true rfl) rfl ?_
    refine pm_aload_n dX12_image_136 rfl rfl ?_
    refine pm_aload_n dX12_image_137 rfl rfl ?_
    refine pm_get fl_RX12_193_12 dX12_image_138 rfl rfl ?_
    refine pm_put (w2 := (_, _, _, _, _, _, _, _, [.inr (_, [_, _, _, _, _, _, _, _, _, _, _, _, _, _, _, _, _, _, _, _, _, _, _, _, _, _, _, _, _, _, _, _, _, _, _, _, _, _, _, _, _, _, _, _]), _, _, _, _, _, _, _, _, _, _, _, _, _, _, _, _, _, _, _, _, _, _, _])) fl_RX12_284_12 fp_12_41 dX12_image_141 rfl rfl rfl (Nat.le_of_ble_eq_true rfl) rfl ?_
    refine pm_aload_n dX12_image_144 rfl rfl ?_
    refine pm_iconst (v := 1) dX12_image_145 (by decide) ?_
    refine pm_put (w2 := (_, _, _, _, _, _, _, _, [.inr (_, [_, _, _, _, _, _, _, _, _, _, _, _, _, _, _, _, _, _, _, _, _, _, _, _, _, _, _, _, _, _, _, _, _, _, _, _, _, _, _, _, _, _, _, _]), _, _, _, _, _, _, _, _, _, _, _, _, _, _, _, _, _, _, _, _, _, _, _])) fl_RX12_287_12 fp_12_42 dX12_image_146 rfl rfl rfl (Nat.le_of_ble_eq_true rfl) rfl ?_
    refine pm_aload_n dX12_image_149 rfl rfl ?_
    refine pm_get fl_RX12_137_12 dX12_image_150 rfl rfl ?_
    refine pm_iret dX12_image_153 rfl rfl rfl ?_
    have he : i = 10 := by
      rw [show (10 : Int32) = nI 10 from rfl, nI_leI (by decide) (by omega)] at c_89
      omega
    subst he
    exact hQ t u ht hu
  · have hlt : i < 10 := by
      rw [show (10 : Int32) = nI 10 from rfl, nI_leI (by decide) (by omega)] at c_89
      omega
    refine pm_aload_n dX12_image_92 rfl rfl ?_
    refine pm_get fl_RX12_77_12 dX12_image_93 rfl rfl ?_
    refine pm_iconst (v := 2) dX12_image_96 (by decide) ?_
    refine pm_iload_n dX12_image_97 rfl rfl ?_
    refine pm_imul dX12_image_98 ?_
    rw [show (2 : Int32) * nI i = nI (2 * i) from pk_mul 2 i]
    refine pm_aload_n dX12_image_99 rfl rfl ?_
    refine pm_get fl_RX12_53_12 dX12_image_100 rfl rfl ?_
    refine pm_iload_n dX12_image_103 rfl rfl ?_
    refine pm_iald dX12_image_104 rfl (th_in (by omega) (by decide)) ?_
    rw [th_cl (by omega)]
    show pm_W _ _ _ _ _ _ (.int (A 15 i) :: _) _ _ _ _
    refine pm_iast (w2 := (_, _, _, _, _, _, _, _, [_, _, _, _, _, _, _, _, _, _, _, _, _, _, _, _, _, _, _, _, _, _, _, _])) dX12_image_105 rfl (th_in (by omega) (by decide)) rfl ?_
    rw [th_cl (by omega)]
    refine pm_aload_n dX12_image_106 rfl rfl ?_
    refine pm_get fl_RX12_77_12 dX12_image_107 rfl rfl ?_
    refine pm_iconst (v := 2) dX12_image_110 (by decide) ?_
    refine pm_iload_n dX12_image_111 rfl rfl ?_
    refine pm_imul dX12_image_112 ?_
    rw [show (2 : Int32) * nI i = nI (2 * i) from pk_mul 2 i]
    refine pm_iconst (v := 1) dX12_image_113 (by decide) ?_
    refine pm_iadd dX12_image_114 ?_
    rw [show nI (2 * i) + 1 = nI (2 * i + 1) from nI_1 _]
    refine pm_aload_n dX12_image_115 rfl rfl ?_
    refine pm_get fl_RX12_56_12 dX12_image_116 rfl rfl ?_
    refine pm_iload_n dX12_image_119 rfl rfl ?_
    refine pm_iald dX12_image_120 rfl (th_in (by omega) (by decide)) ?_
    rw [th_cl (by omega)]
    show pm_W _ _ _ _ _ _ (.int (A 16 i) :: _) _ _ _ _
    refine pm_iast (w2 := (_, _, _, _, _, _, _, _, [_, _, _, _, _, _, _, _, _, _, _, _, _, _, _, _, _, _, _, _, _, _, _, _])) dX12_image_121 rfl (th_in (by omega) (by decide)) rfl ?_
    rw [th_cl (by omega)]
    refine pm_iinc (lv2 := [(1, _), (0, _)]) dX12_image_122 rfl (nI_1 i) (Nat.le_of_ble_eq_true rfl) rfl ?_
    refine pm_goto (tgt := 86) dX12_image_125 (by decide) ?_
    refine pm_pick [0, 1] rfl ?_
    exact k hlt (upd (upd u (2 * i) (A 15 i)) (2 * i + 1) (A 16 i)) (th_u2 hu rfl rfl)

set_option maxHeartbeats 600000 in
set_option maxRecDepth 100000 in
theorem c_X12_image {l : Launch} {G : pm_G} {ad : Nat → Nat → Nat} {a0 a3 a4 a5 a6 a7 : List pm_A} {a1 a2 : Nat → Option pm_A} {S : Nat → Nat} {A : Nat → Nat → Int32} {s : Nat → Int32} {B : Nat → Nat → Int32} {hs : Int64} {Q : pm_T} (hI : th_I S A) (hQ : ∀ t u, th_im22 A 8 t → th_im23 A 10 u → Q ad (some (.int (nI (S 11)))) (a0, a1, a2, a3, a4, a5, a6, a7, th_mp ad (th_imS S) (va_up (va_up A 22 t) 23 u) s B hs)) : pm_C l G m_X12_image [.ref (ad 8 0)] ad (a0, a1, a2, a3, a4, a5, a6, a7, th_mp ad S A s B hs) Q := by
  have h8 := hI.2.2.2.2.1.1
  have h10 := hI.2.2.2.2.2.1.1
  have h13 : ∀ i, i < 8 → A 13 i = 0 ∨ A 13 i = 1 := fun i hi => (Nat.lt_or_ge i (S 11)).elim (fun h => (th_nk hI h).2.2.2.2.2.2) (fun h => Or.inl (hI.2.2.2.2.1.2.2 i h hi).2.1)
  refine pm_met (by decide) (Nat.le_of_ble_eq_true rfl) ?_
  refine pm_iconst (v := 0) dX12_image_0 (by decide) ?_
  refine pm_istore_n (lv2 := [(1, _), (0, _)]) dX12_image_1 rfl (Nat.le_of_ble_eq_true rfl) rfl ?_
  suffices H : ∀ i, i ≤ 8 → ∀ t : Nat → Int32, th_im22 A i t → pm_W l G m_X12_image ad 2 [(1, .int (nI i)), (0, .ref (ad 8 0))] [] (a0, a1, a2, a3, a4, a5, a6, a7, th_mp ad S (va_up A 22 t) s B hs) 0 0 Q from H 0 (by decide) (A 22) (fun q hq => absurd hq (by omega))
  refine th_loop _ ?_
  intro i hi k t ht
  refine pm_iload_n dX12_image_2 rfl rfl ?_
  refine pm_bipush (v := 8) dX12_image_3 (by decide) ?_
  refine pm_icmp_ge (tgt := 84) dX12_image_5 (by decide) (fun c_5 => ?_) (fun c_5 => ?_)
  · have he : i = 8 := by
      rw [show (8 : Int32) = nI 8 from rfl, nI_leI (by decide) (by omega)] at c_5
      omega
    subst he
    exact f_X12_image hQ ht
  · have hlt : i < 8 := by
      rw [show (8 : Int32) = nI 8 from rfl, nI_leI (by decide) (by omega)] at c_5
      omega
    refine pm_aload_n dX12_image_8 rfl rfl ?_
    refine pm_get fl_RX12_74_12 dX12_image_9 rfl rfl ?_
    refine pm_iconst (v := 4) dX12_image_12 (by decide) ?_
    refine pm_iload_n dX12_image_13 rfl rfl ?_
    refine pm_imul dX12_image_14 ?_
    rw [show (4 : Int32) * nI i = nI (4 * i) from pk_mul 4 i]
    refine pm_aload_n dX12_image_15 rfl rfl ?_
    refine pm_get fl_RX12_40_12 dX12_image_16 rfl rfl ?_
    refine pm_iload_n dX12_image_19 rfl rfl ?_
    refine pm_iald dX12_image_20 rfl (th_in (by omega) (by decide)) ?_
    rw [th_cl (by omega)]
    show pm_W _ _ _ _ _ _ (.int (A 11 i) :: _) _ _ _ _
    refine pm_iast (w2 := (_, _, _, _, _, _, _, _, [_, _, _, _, _, _, _, _, _, _, _, _, _, _, _, _, _, _, _, _, _, _, _, _])) dX12_image_21 rfl (th_in (by omega) (by decide)) rfl ?_
    rw [th_cl (by omega)]
    refine pm_aload_n dX12_image_22 rfl rfl ?_
    refine pm_get fl_RX12_74_12 dX12_image_23 rfl rfl ?_
    refine pm_iconst (v := 4) dX12_image_26 (by decide) ?_
    refine pm_iload_n dX12_image_27 rfl rfl ?_
    refine pm_imul dX12_image_28 ?_
    rw [show (4 : Int32) * nI i = nI (4 * i) from pk_mul 4 i]
    refine pm_iconst (v := 1) dX12_image_29 (by decide) ?_
    refine pm_iadd dX12_image_30 ?_
    rw [show nI (4 * i) + 1 = nI (4 * i + 1) from nI_add _ 1]
    refine pm_aload_n dX12_image_31 rfl rfl ?_
    refine pm_get fl_RX12_43_12 dX12_image_32 rfl rfl ?_
    refine pm_iload_n dX12_image_35 rfl rfl ?_
    refine pm_iald dX12_image_36 rfl (th_in (by omega) (by decide)) ?_
    rw [th_cl (by omega)]
    show pm_W _ _ _ _ _ _ (.int (A 12 i) :: _) _ _ _ _
    refine pm_iast (w2 := (_, _, _, _, _, _, _, _, [_, _, _, _, _, _, _, _, _, _, _, _, _, _, _, _, _, _, _, _, _, _, _, _])) dX12_image_37 rfl (th_in (by omega) (by decide)) rfl ?_
    rw [th_cl (by omega)]
    refine pm_aload_n dX12_image_38 rfl rfl ?_
    refine pm_get fl_RX12_74_12 dX12_image_39 rfl rfl ?_
    refine pm_iconst (v := 4) dX12_image_42 (by decide) ?_
    refine pm_iload_n dX12_image_43 rfl rfl ?_
    refine pm_imul dX12_image_44 ?_
    rw [show (4 : Int32) * nI i = nI (4 * i) from pk_mul 4 i]
    refine pm_iconst (v := 2) dX12_image_45 (by decide) ?_
    refine pm_iadd dX12_image_46 ?_
    rw [show nI (4 * i) + 2 = nI (4 * i + 2) from nI_add _ 2]
    refine pm_aload_n dX12_image_47 rfl rfl ?_
    refine pm_get fl_RX12_46_12 dX12_image_48 rfl rfl ?_
    refine pm_iload_n dX12_image_51 rfl rfl ?_
    refine pm_zald dX12_image_52 rfl (th_in (by omega) (by decide)) ?_
    rw [th_cl (by omega)]
    show pm_W _ _ _ _ _ _ (.int (A 13 i) :: _) _ _ _ _
    refine pm_if_eq (tgt := 60) dX12_image_53 (by decide) (fun c_53 => ?_) (fun c_53 => ?_)
    · refine pm_iconst (v := 0) dX12_image_60 (by decide) ?_
      refine pm_iast (w2 := (_, _, _, _, _, _, _, _, [_, _, _, _, _, _, _, _, _, _, _, _, _, _, _, _, _, _, _, _, _, _, _, _])) dX12_image_61 rfl (th_in (by omega) (by decide)) rfl ?_
      rw [th_cl (by omega)]
      refine pm_aload_n dX12_image_62 rfl rfl ?_
      refine pm_get fl_RX12_74_12 dX12_image_63 rfl rfl ?_
      refine pm_iconst (v := 4) dX12_image_66 (by decide) ?_
      refine pm_iload_n dX12_image_67 rfl rfl ?_
      refine pm_imul dX12_image_68 ?_
      rw [show (4 : Int32) * nI i = nI (4 * i) from pk_mul 4 i]
      refine pm_iconst (v := 3) dX12_image_69 (by decide) ?_
      refine pm_iadd dX12_image_70 ?_
      rw [show nI (4 * i) + 3 = nI (4 * i + 3) from nI_add _ 3]
      refine pm_aload_n dX12_image_71 rfl rfl ?_
      refine pm_get fl_RX12_50_12 dX12_image_72 rfl rfl ?_
      refine pm_iload_n dX12_image_75 rfl rfl ?_
      refine pm_iald dX12_image_76 rfl (th_in (by omega) (by decide)) ?_
      rw [th_cl (by omega)]
      show pm_W _ _ _ _ _ _ (.int (A 14 i) :: _) _ _ _ _
      refine pm_iast (w2 := (_, _, _, _, _, _, _, _, [_, _, _, _, _, _, _, _, _, _, _, _, _, _, _, _, _, _, _, _, _, _, _, _])) dX12_image_77 rfl (th_in (by omega) (by decide)) rfl ?_
      rw [th_cl (by omega)]
      refine pm_iinc (lv2 := [(1, _), (0, _)]) dX12_image_78 rfl (nI_1 i) (Nat.le_of_ble_eq_true rfl) rfl ?_
      refine pm_goto (tgt := 2) dX12_image_81 (by decide) ?_
      refine pm_pick [0, 1] rfl ?_
      refine k hlt (upd (upd (upd (upd t (4 * i) (A 11 i)) (4 * i + 1) (A 12 i)) (4 * i + 2) 0) (4 * i + 3) (A 14 i)) (th_u4 ht rfl rfl c_53.symm rfl)
    · refine pm_iconst (v := 1) dX12_image_56 (by decide) ?_
      refine pm_goto (tgt := 61) dX12_image_57 (by decide) ?_
      refine pm_iast (w2 := (_, _, _, _, _, _, _, _, [_, _, _, _, _, _, _, _, _, _, _, _, _, _, _, _, _, _, _, _, _, _, _, _])) dX12_image_61 rfl (th_in (by omega) (by decide)) rfl ?_
      rw [th_cl (by omega)]
      refine pm_aload_n dX12_image_62 rfl rfl ?_
      refine pm_get fl_RX12_74_12 dX12_image_63 rfl rfl ?_
      refine pm_iconst (v := 4) dX12_image_66 (by decide) ?_
      refine pm_iload_n dX12_image_67 rfl rfl ?_
      refine pm_imul dX12_image_68 ?_
      rw [show (4 : Int32) * nI i = nI (4 * i) from pk_mul 4 i]
      refine pm_iconst (v := 3) dX12_image_69 (by decide) ?_
      refine pm_iadd dX12_image_70 ?_
      rw [show nI (4 * i) + 3 = nI (4 * i + 3) from nI_add _ 3]
      refine pm_aload_n dX12_image_71 rfl rfl ?_
      refine pm_get fl_RX12_50_12 dX12_image_72 rfl rfl ?_
      refine pm_iload_n dX12_image_75 rfl rfl ?_
      refine pm_iald dX12_image_76 rfl (th_in (by omega) (by decide)) ?_
      rw [th_cl (by omega)]
      show pm_W _ _ _ _ _ _ (.int (A 14 i) :: _) _ _ _ _
      refine pm_iast (w2 := (_, _, _, _, _, _, _, _, [_, _, _, _, _, _, _, _, _, _, _, _, _, _, _, _, _, _, _, _, _, _, _, _])) dX12_image_77 rfl (th_in (by omega) (by decide)) rfl ?_
      rw [th_cl (by omega)]
      refine pm_iinc (lv2 := [(1, _), (0, _)]) dX12_image_78 rfl (nI_1 i) (Nat.le_of_ble_eq_true rfl) rfl ?_
      refine pm_goto (tgt := 2) dX12_image_81 (by decide) ?_
      refine pm_pick [0, 1] rfl ?_
      have hb1 : A 13 i = 1 := (h13 i hlt).resolve_left c_53
      refine k hlt (upd (upd (upd (upd t (4 * i) (A 11 i)) (4 * i + 1) (A 12 i)) (4 * i + 2) 1) (4 * i + 3) (A 14 i)) (th_u4 ht rfl rfl hb1.symm rfl)

set_option maxHeartbeats 600000 in
set_option maxRecDepth 100000 in
theorem c_X4_keep {l : Launch} {G : pm_G} {ad : Nat → Nat → Nat} {S : Nat → Nat} {A : Nat → Nat → Int32} {X : Nat → Int32} {Y : Nat → Nat → Int32} {F : Nat → Int64} {Hd Cs : Nat → Option Nat} {m : List pm_A} {Q : pm_T} {i ki : Nat} {a b c d : Nat → Int32} (hi : i < S 11) (ei : A 6 i = nI ki) (hki : ki ≤ 4) (h13 : A 13 i = 0 ∨ A 13 i = 1) (hQ : Q ad none (th_cw ad S A X (va_up (va_up (va_up (va_up Y 20 (upd a i (A 11 i))) 21 (upd b i (A 12 i))) 22 (upd c i (A 13 i))) 23 (upd d i (A 14 i))) F Hd Cs m)) : pm_C l G m_X4_keep [.ref (ad 2 i)] ad (th_cw ad S A X (va_up (va_up (va_up (va_up Y 20 a) 21 b) 22 c) 23 d) F Hd Cs m) Q := by
  have hw : pm_get? (th_cw ad S A X (va_up (va_up (va_up (va_up Y 20 a) 21 b) 22 c) 23 d) F Hd Cs m) 2 i = some (.inr (pm_kc (th_n (A 6 i)), th_nf ad A (va_up (va_up (va_up (va_up Y 20 a) 21 b) 22 c) 23 d) i)) := th_nt_get hi
  rw [ei, th_n_nI (by omega)] at hw
  refine pm_met (by decide) (Nat.le_of_ble_eq_true rfl) ?_
  refine pm_aload_n dX4_keep_0 rfl rfl ?_
  refine pm_aload_n dX4_keep_1 rfl rfl ?_
  refine pm_get (fn_RX4_28 _) dX4_keep_2 hw rfl ?_
  refine pm_put (w2 := (_, _, _, _, _, _, _, _, _)) (fn_RX4_55 _) (fpn_9 _) dX4_keep_5 hw rfl rfl (Nat.le_of_ble_eq_true rfl) rfl ?_
  refine pm_aload_n dX4_keep_8 rfl rfl ?_
  refine pm_aload_n dX4_keep_9 rfl rfl ?_
  refine pm_get (fn_RX4_44 _) dX4_keep_10 (show pm_get? _ 2 i = _ from if_pos rfl) rfl ?_
  refine pm_put (w2 := (_, _, _, _, _, _, _, _, _)) (fn_RX4_58 _) (fpn_10 _) dX4_keep_13 (show pm_get? _ 2 i = _ from if_pos rfl) rfl rfl (Nat.le_of_ble_eq_true rfl) rfl ?_
  refine pm_aload_n dX4_keep_16 rfl rfl ?_
  refine pm_aload_n dX4_keep_17 rfl rfl ?_
  refine pm_get (fn_RX4_47 _) dX4_keep_18 (show pm_get? _ 2 i = _ from if_pos rfl) rfl ?_
  refine pm_put (w2 := (_, _, _, _, _, _, _, _, _)) (fn_RX4_61 _) (fpn_11 _) dX4_keep_21 (show pm_get? _ 2 i = _ from if_pos rfl) (by rcases h13 with e | e <;> rw [e] <;> rfl) (by rcases h13 with e | e <;> rw [e] <;> rfl) (Nat.le_of_ble_eq_true rfl) rfl ?_
  refine pm_aload_n dX4_keep_24 rfl rfl ?_
  refine pm_aload_n dX4_keep_25 rfl rfl ?_
  refine pm_get (fn_RX4_9 _) dX4_keep_26 (show pm_get? _ 2 i = _ from if_pos rfl) rfl ?_
  refine pm_put (w2 := (_, _, _, _, _, _, _, _, _)) (fn_RX4_64 _) (fpn_12 _) dX4_keep_29 (show pm_get? _ 2 i = _ from if_pos rfl) rfl rfl (Nat.le_of_ble_eq_true rfl) rfl ?_
  refine pm_vret dX4_keep_32 rfl rfl rfl ?_
  refine th_q2 ?_ hQ
  rw [th_vu2, th_vu2, th_vu2]
  exact th_g2_set hi (by rw [ei]; exact th_n_nI (by omega)) (by simp [th_nf, va_up, upd]) (fun q hq => ⟨rfl, by simp [th_nf, va_up, upd, hq]⟩)

set_option maxHeartbeats 600000 in
set_option maxRecDepth 100000 in
theorem c_X4_goBack {l : Launch} {G : pm_G} {ad : Nat → Nat → Nat} {S : Nat → Nat} {A : Nat → Nat → Int32} {X : Nat → Int32} {Y : Nat → Nat → Int32} {F : Nat → Int64} {Hd Cs : Nat → Option Nat} {m : List pm_A} {Q : pm_T} {i ki : Nat} {a b c d : Nat → Int32} (hi : i < S 11) (ei : A 6 i = nI ki) (hki : ki ≤ 4) (h13 : Y 22 i = 0 ∨ Y 22 i = 1) (hQ : Q ad none (th_cw ad S (va_up (va_up (va_up (va_up A 11 (upd a i (Y 20 i))) 12 (upd b i (Y 21 i))) 13 (upd c i (Y 22 i))) 14 (upd d i (Y 23 i))) X Y F Hd Cs m)) : pm_C l G m_X4_goBack [.ref (ad 2 i)] ad (th_cw ad S (va_up (va_up (va_up (va_up A 11 a) 12 b) 13 c) 14 d) X Y F Hd Cs m) Q := by
  have hw : pm_get? (th_cw ad S (va_up (va_up (va_up (va_up A 11 a) 12 b) 13 c) 14 d) X Y F Hd Cs m) 2 i = some (.inr (pm_kc (th_n (A 6 i)), th_nf ad (va_up (va_up (va_up (va_up A 11 a) 12 b) 13 c) 14 d) Y i)) := th_nt_get hi
  rw [ei, th_n_nI (by omega)] at hw
  refine pm_met (by decide) (Nat.le_of_ble_eq_true rfl) ?_
  refine pm_aload_n dX4_goBack_0 rfl rfl ?_
  refine pm_aload_n dX4_goBack_1 rfl rfl ?_
  refine pm_get (fn_RX4_55 _) dX4_goBack_2 hw rfl ?_
  refine pm_put (w2 := (_, _, _, _, _, _, _, _, _)) (fn_RX4_28 _) (fpn_5 _) dX4_goBack_5 hw rfl rfl (Nat.le_of_ble_eq_true rfl) rfl ?_
  refine pm_aload_n dX4_goBack_8 rfl rfl ?_
  refine pm_aload_n dX4_goBack_9 rfl rfl ?_
  refine pm_get (fn_RX4_58 _) dX4_goBack_10 (show pm_get? _ 2 i = _ from if_pos rfl) rfl ?_
  refine pm_put (w2 := (_, _, _, _, _, _, _, _, _)) (fn_RX4_44 _) (fpn_6 _) dX4_goBack_13 (show pm_get? _ 2 i = _ from if_pos rfl) rfl rfl (Nat.le_of_ble_eq_true rfl) rfl ?_
  refine pm_aload_n dX4_goBack_16 rfl rfl ?_
  refine pm_aload_n dX4_goBack_17 rfl rfl ?_
  refine pm_get (fn_RX4_61 _) dX4_goBack_18 (show pm_get? _ 2 i = _ from if_pos rfl) rfl ?_
  refine pm_put (w2 := (_, _, _, _, _, _, _, _, _)) (fn_RX4_47 _) (fpn_7 _) dX4_goBack_21 (show pm_get? _ 2 i = _ from if_pos rfl) (by rcases h13 with e | e <;> rw [e] <;> rfl) (by rcases h13 with e | e <;> rw [e] <;> rfl) (Nat.le_of_ble_eq_true rfl) rfl ?_
  refine pm_aload_n dX4_goBack_24 rfl rfl ?_
  refine pm_aload_n dX4_goBack_25 rfl rfl ?_
  refine pm_get (fn_RX4_64 _) dX4_goBack_26 (show pm_get? _ 2 i = _ from if_pos rfl) rfl ?_
  refine pm_put (w2 := (_, _, _, _, _, _, _, _, _)) (fn_RX4_9 _) (fpn_8 _) dX4_goBack_29 (show pm_get? _ 2 i = _ from if_pos rfl) rfl rfl (Nat.le_of_ble_eq_true rfl) rfl ?_
  refine pm_vret dX4_goBack_32 rfl rfl rfl ?_
  refine th_q2 ?_ hQ
  rw [th_vu2, th_vu2, th_vu2]
  exact th_g2_set hi (by show th_n (A 6 i) = ki; rw [ei]; exact th_n_nI (by omega)) (by simp [th_nf, va_up, upd]) (fun q hq => ⟨rfl, by simp [th_nf, va_up, upd, hq]⟩)

set_option maxHeartbeats 600000 in
set_option maxRecDepth 100000 in
theorem c_X3_keep {l : Launch} {G : pm_G} {ad : Nat → Nat → Nat} {S : Nat → Nat} {A : Nat → Nat → Int32} {X : Nat → Int32} {Y : Nat → Nat → Int32} {F : Nat → Int64} {Hd Cs : Nat → Option Nat} {m : List pm_A} {Q : pm_T} (hQ : Q ad none (th_cw ad (va_up S 41 (S 26)) A X Y F Hd Cs m)) : pm_C l G m_X3_keep [.ref (ad 4 0)] ad (th_cw ad S A X Y F Hd Cs m) Q := by
  refine pm_met (by decide) (Nat.le_of_ble_eq_true rfl) ?_
  refine pm_aload_n dX3_keep_0 rfl rfl ?_
  refine pm_aload_n dX3_keep_1 rfl rfl ?_
  refine pm_get fl_RX3_24_3 dX3_keep_2 rfl rfl ?_
  refine pm_put (w2 := (_, _, _, _, [.inr (_, [_, _, _, _, _, _, _, _]), _, _, _, _], _, _, _, _)) fl_RX3_33_3 fp_3_7 dX3_keep_5 rfl rfl rfl (Nat.le_of_ble_eq_true rfl) rfl ?_
  refine pm_vret dX3_keep_8 rfl rfl rfl ?_
  exact hQ

set_option maxHeartbeats 600000 in
set_option maxRecDepth 100000 in
theorem c_X3_goBack {l : Launch} {G : pm_G} {ad : Nat → Nat → Nat} {S : Nat → Nat} {A : Nat → Nat → Int32} {X : Nat → Int32} {Y : Nat → Nat → Int32} {F : Nat → Int64} {Hd Cs : Nat → Option Nat} {m : List pm_A} {Q : pm_T} (hQ : Q ad none (th_cw ad (va_up S 26 (S 41)) A X Y F Hd Cs m)) : pm_C l G m_X3_goBack [.ref (ad 4 0)] ad (th_cw ad S A X Y F Hd Cs m) Q := by
  refine pm_met (by decide) (Nat.le_of_ble_eq_true rfl) ?_
  refine pm_aload_n dX3_goBack_0 rfl rfl ?_
  refine pm_aload_n dX3_goBack_1 rfl rfl ?_
  refine pm_get fl_RX3_33_3 dX3_goBack_2 rfl rfl ?_
  refine pm_put (w2 := (_, _, _, _, [.inr (_, [_, _, _, _, _, _, _, _]), _, _, _, _], _, _, _, _)) fl_RX3_24_3 fp_3_0 dX3_goBack_5 rfl rfl rfl (Nat.le_of_ble_eq_true rfl) rfl ?_
  refine pm_vret dX3_goBack_8 rfl rfl rfl ?_
  exact hQ

set_option maxHeartbeats 600000 in
set_option maxRecDepth 100000 in
theorem f_X11_image {l : Launch} {G : pm_G} {ad : Nat → Nat → Nat} {S : Nat → Nat} {A : Nat → Nat → Int32} {X : Nat → Int32} {Y : Nat → Nat → Int32} {F : Nat → Int64} {Hd Cs : Nat → Option Nat} {m : List pm_A} {Q : pm_T} {a b c d : Nat → Int32} {z : Int32} (hQ : ∀ a b c d, (∀ q, q < S 11 → a q = A 11 q ∧ b q = A 12 q ∧ c q = A 13 q ∧ d q = A 14 q) → Q ad (some (.int (nI (S 11)))) (th_cw ad (th_imS S) A X (va_up (va_up (va_up (va_up Y 20 a) 21 b) 22 c) 23 d) F Hd Cs m)) (hk : ∀ q, q < S 11 → a q = A 11 q ∧ b q = A 12 q ∧ c q = A 13 q ∧ d q = A 14 q) : pm_W l G m_X11_image ad 35 [(1, .int z), (0, .ref (ad 0 0))] [] (th_cw ad S A X (va_up (va_up (va_up (va_up Y 20 a) 21 b) 22 c) 23 d) F Hd Cs m) 0 0 Q := by
  refine pm_aload_n dX11_image_35 rfl rfl ?_
  refine pm_get fl_RX11_38_11 dX11_image_36 rfl rfl ?_
  refine pm_callV (M2 := m_X3_keep) (As := []) ok_X3_keep (ci := 3) rfl kw_882 kw_883 kw_884 dX11_image_39 rfl rfl rfl (Nat.le_of_ble_eq_true rfl) ⟨⟨Nat.le_of_ble_eq_true rfl, Nat.le_of_ble_eq_true rfl⟩, Nat.le_of_ble_eq_true rfl, Nat.le_of_ble_eq_true rfl⟩ ?_
  refine c_X3_keep (Y := (va_up (va_up (va_up (va_up Y 20 a) 21 b) 22 c) 23 d)) ?_
  refine pm_aload_n dX11_image_42 rfl rfl ?_
  refine pm_aload_n dX11_image_43 rfl rfl ?_
  refine pm_get fl_RX11_103_11 dX11_image_44 rfl rfl ?_
  refine pm_put (w2 := ([.inr (_, [_, _, _, _, _, _, _, _, _, _, _, _]), _, _, _], _, _, _, _, _, _, _, _)) fl_RX11_64_11 fp_11_11 dX11_image_47 rfl rfl rfl (Nat.le_of_ble_eq_true rfl) rfl ?_
  refine pm_aload_n dX11_image_50 rfl rfl ?_
  refine pm_get fl_RX11_103_11 dX11_image_51 rfl rfl ?_
  refine pm_iret dX11_image_54 rfl rfl rfl ?_
  exact hQ a b c d hk

set_option maxHeartbeats 600000 in
set_option maxRecDepth 100000 in
theorem c_X11_image {l : Launch} {G : pm_G} {ad : Nat → Nat → Nat} {S : Nat → Nat} {A : Nat → Nat → Int32} {X : Nat → Int32} {Y : Nat → Nat → Int32} {F : Nat → Int64} {Hd Cs : Nat → Option Nat} {m : List pm_A} {Q : pm_T} (hI : th_I S A) (hQ : ∀ a b c d, (∀ q, q < S 11 → a q = A 11 q ∧ b q = A 12 q ∧ c q = A 13 q ∧ d q = A 14 q) → Q ad (some (.int (nI (S 11)))) (th_cw ad (th_imS S) A X (va_up (va_up (va_up (va_up Y 20 a) 21 b) 22 c) 23 d) F Hd Cs m)) : pm_C l G m_X11_image [.ref (ad 0 0)] ad (th_cw ad S A X Y F Hd Cs m) Q := by
  have h8 := hI.2.2.2.2.1.1
  have h10 := hI.2.2.2.2.2.1.1
  refine pm_met (by decide) (Nat.le_of_ble_eq_true rfl) ?_
  refine pm_iconst (v := 0) dX11_image_0 (by decide) ?_
  refine pm_istore_n (lv2 := [(1, _), (0, _)]) dX11_image_1 rfl (Nat.le_of_ble_eq_true rfl) rfl ?_
  suffices H : ∀ i, i ≤ S 11 → ∀ a b c d : Nat → Int32, (∀ q, q < i → a q = A 11 q ∧ b q = A 12 q ∧ c q = A 13 q ∧ d q = A 14 q) → pm_W l G m_X11_image ad 2 [(1, .int (nI i)), (0, .ref (ad 0 0))] [] (th_cw ad S A X (va_up (va_up (va_up (va_up Y 20 a) 21 b) 22 c) 23 d) F Hd Cs m) 0 0 Q from H 0 (Nat.zero_le _) (Y 20) (Y 21) (Y 22) (Y 23) (fun q hq => absurd hq (by omega))
  refine th_loop _ ?_
  intro i hi k a b c d hk
  refine pm_iload_n dX11_image_2 rfl rfl ?_
  refine pm_aload_n dX11_image_3 rfl rfl ?_
  refine pm_get fl_RX11_24_11 dX11_image_4 rfl rfl ?_
  refine pm_alen (by decide) dX11_image_7 rfl ?_
  show pm_W _ _ _ _ _ _ (.int (nI 8) :: _) _ _ _ _
  refine pm_icmp_ge (tgt := 35) dX11_image_8 (by decide) (fun c_8 => ?_) (fun c_8 => ?_)
  · have he : i = S 11 := by
      rw [nI_leI (by decide) (by omega)] at c_8
      omega
    exact f_X11_image hQ (fun q hq => hk q (by omega))
  · refine pm_aload_n dX11_image_11 rfl rfl ?_
    refine pm_get fl_RX11_24_11 dX11_image_12 rfl rfl ?_
    refine pm_iload_n dX11_image_15 rfl rfl ?_
    have hi8 : i < 8 := by
      rw [nI_leI (by decide) (by omega)] at c_8
      omega
    refine pm_aaldN dX11_image_16 rfl (th_in hi8 (by decide)) ?_
    rw [th_cl (by omega)]
    unfold th_rs
    by_cases hlt : i < S 11
    · rw [if_pos hlt]
      show pm_W _ _ _ _ _ _ (.ref (ad 2 i) :: _) _ _ _ _
      refine pm_ifnull dX11_image_17 ?_
      refine pm_aload_n dX11_image_20 rfl rfl ?_
      refine pm_get fl_RX11_24_11 dX11_image_21 rfl rfl ?_
      refine pm_iload_n dX11_image_24 rfl rfl ?_
      refine pm_aaldN dX11_image_25 rfl (th_in hi8 (by decide)) ?_
      rw [th_cl (by omega)]
      unfold th_rs
      rw [if_pos hlt]
      show pm_W _ _ _ _ _ _ (.ref (ad 2 i) :: _) _ _ _ _
      obtain ⟨⟨ki, hki, eki⟩, -, -, -, -, -, h13⟩ := th_nk hI hlt
      have hwi : th_g2 ad S A (va_up (va_up (va_up (va_up Y 20 a) 21 b) 22 c) 23 d) i = some (.inr (pm_kc (th_n (A 6 i)), th_nf ad A (va_up (va_up (va_up (va_up Y 20 a) 21 b) 22 c) 23 d) i)) := th_nt_get hlt
      rw [eki, th_n_nI (by omega)] at hwi
      refine cn_RX11_251 (M := m_X11_image) (As := []) dX11_image_26 (show pm_get? _ 2 i = _ from hwi) rfl (Nat.le_of_ble_eq_true rfl) ⟨⟨Nat.le_of_ble_eq_true rfl, Nat.le_of_ble_eq_true rfl⟩, Nat.le_of_ble_eq_true rfl, Nat.le_of_ble_eq_true rfl⟩ ?_
      refine c_X4_keep hlt eki hki h13 ?_
      refine pm_iinc (lv2 := [(1, _), (0, _)]) dX11_image_29 rfl (nI_1 i) (Nat.le_of_ble_eq_true rfl) rfl ?_
      refine pm_goto (tgt := 2) dX11_image_32 (by decide) ?_
      refine pm_pick [0, 1] rfl ?_
      refine k hlt (upd a i (A 11 i)) (upd b i (A 12 i)) (upd c i (A 13 i)) (upd d i (A 14 i)) ?_
      intro q hq
      unfold upd
      by_cases e : q = i
      · rw [if_pos e, if_pos e, if_pos e, if_pos e, e]
        exact ⟨rfl, rfl, rfl, rfl⟩
      · rw [if_neg e, if_neg e, if_neg e, if_neg e]
        exact hk q (by omega)
    · rw [if_neg hlt]
      show pm_W _ _ _ _ _ _ (.null :: _) _ _ _ _
      refine pm_ifnullN (tgt := 35) dX11_image_17 (by decide) ?_
      exact f_X11_image hQ (fun q hq => hk q (by omega))

def th_rsS (S : Nat → Nat) : Nat → Nat := if S 42 = 0 then S else va_up S 26 (S 41)
def th_ra (S : Nat → Nat) (A : Nat → Nat → Int32) : Nat → Nat → Int32 := va_up (va_up (va_up (va_up (va_up (va_up A 11 (th_pf (fun q => A 22 (4 * q)) (A 11) (S 40))) 12 (th_pf (fun q => A 22 (4 * q + 1)) (A 12) (S 40))) 13 (th_pf (fun q => A 22 (4 * q + 2)) (A 13) (S 40))) 14 (th_pf (fun q => A 22 (4 * q + 3)) (A 14) (S 40))) 15 (th_pf (fun q => A 23 (2 * q)) (A 15) 10)) 16 (th_pf (fun q => A 23 (2 * q + 1)) (A 16) 10)
def th_rsA (S : Nat → Nat) (A : Nat → Nat → Int32) : Nat → Nat → Int32 := if S 42 = 0 then A else th_ra S A
def th_rsV (S : Nat → Nat) : Int32 := if S 42 = 0 then -103 else nI (S 11)
theorem th_pfe {f f' g : Nat → Int32} {n : Nat} (h : ∀ q, q < n → f q = f' q) : th_pf f g n = th_pf f' g n := by
  funext q
  unfold th_pf
  by_cases e : q < n
  · rw [if_pos e, if_pos e, h q e]
  · rw [if_neg e, if_neg e]
set_option maxHeartbeats 600000 in
set_option maxRecDepth 100000 in
theorem f_X12_restore {l : Launch} {G : pm_G} {ad : Nat → Nat → Nat} {a0 a3 a4 a5 a6 a7 : List pm_A} {a1 a2 : Nat → Option pm_A} {S : Nat → Nat} {A : Nat → Nat → Int32} {s : Nat → Int32} {B : Nat → Nat → Int32} {hs : Int64} {Q : pm_T} {a b c d : Nat → Int32} {z : Int32} (hQ : Q ad (some (.int (nI (S 11)))) (a0, a1, a2, a3, a4, a5, a6, a7, th_mp ad (va_up S 26 (S 41)) (th_ra S A) s B hs)) (ha : a = th_pf (fun q => A 22 (4 * q)) (A 11) (S 40)) (hb : b = th_pf (fun q => A 22 (4 * q + 1)) (A 12) (S 40)) (hc : c = th_pf (fun q => A 22 (4 * q + 2)) (A 13) (S 40)) (hd : d = th_pf (fun q => A 22 (4 * q + 3)) (A 14) (S 40)) : pm_W l G m_X12_restore ad 97 [(1, .int z), (0, .ref (ad 8 0))] [] (a0, a1, a2, a3, a4, a5, a6, a7, th_mp ad S (va_up (va_up (va_up (va_up A 11 a) 12 b) 13 c) 14 d) s B hs) 0 0 Q := by
  refine pm_iconst (v := 0) dX12_restore_97 (by decide) ?_
  refine pm_istore_n (lv2 := [(1, _), (0, _)]) dX12_restore_98 rfl (Nat.le_of_ble_eq_true rfl) rfl ?_
  suffices H : ∀ i, i ≤ 10 → ∀ u v : Nat → Int32, u = th_pf (fun q => A 23 (2 * q)) (A 15) i → v = th_pf (fun q => A 23 (2 * q + 1)) (A 16) i → pm_W l G m_X12_restore ad 99 [(1, .int (nI i)), (0, .ref (ad 8 0))] [] (a0, a1, a2, a3, a4, a5, a6, a7, th_mp ad S (va_up (va_up (va_up (va_up (va_up (va_up A 11 a) 12 b) 13 c) 14 d) 15 u) 16 v) s B hs) 0 0 Q from H 0 (by decide) (A 15) (A 16) (th_pf0 _ _).symm (th_pf0 _ _).symm
  refine th_loop _ ?_
  intro i hi k u v hu hv
  refine pm_iload_n dX12_restore_99 rfl rfl ?_
  refine pm_bipush (v := 10) dX12_restore_100 (by decide) ?_
  refine pm_icmp_ge (tgt := 141) dX12_restore_102 (by decide) (fun c_102 => ?_) (fun c_102 => ?_)
  · refine pm_aload_n dX12_restore_141 rfl rfl ?_
    refine pm_aload_n dX12_restore_142 rfl rfl ?_
    refine pm_get fl_RX12_284_12 dX12_restore_143 rfl rfl ?_
    refine pm_put (w2 := (_, _, _, _, _, _, _, _, [.inr (_, [_, _, _, _, _, _, _, _, _, _, _, _, _, _, _, _, _, _, _, _, _, _, _, _, _, _, _, _, _, _, _, _, _, _, _, _, _, _, _, _, _, _, _, _]), _, _, _, _, _, _, _, _, _, _, _, _, _, _, _, _, _, _, _, _, _, _, _])) fl_RX12_193_12 fp_12_26 dX12_restore_146 rfl rfl rfl (Nat.le_of_ble_eq_true rfl) rfl ?_
    refine pm_aload_n dX12_restore_149 rfl rfl ?_
    refine pm_get fl_RX12_137_12 dX12_restore_150 rfl rfl ?_
    refine pm_iret dX12_restore_153 rfl rfl rfl ?_
    have he : i = 10 := by
      rw [show (10 : Int32) = nI 10 from rfl, nI_leI (by decide) (by omega)] at c_102
      omega
    subst he ha hb hc hd hu hv
    exact hQ
  · have hlt : i < 10 := by
      rw [show (10 : Int32) = nI 10 from rfl, nI_leI (by decide) (by omega)] at c_102
      omega
    refine pm_aload_n dX12_restore_105 rfl rfl ?_
    refine pm_get fl_RX12_53_12 dX12_restore_106 rfl rfl ?_
    refine pm_iload_n dX12_restore_109 rfl rfl ?_
    refine pm_aload_n dX12_restore_110 rfl rfl ?_
    refine pm_get fl_RX12_77_12 dX12_restore_111 rfl rfl ?_
    refine pm_iconst (v := 2) dX12_restore_114 (by decide) ?_
    refine pm_iload_n dX12_restore_115 rfl rfl ?_
    refine pm_imul dX12_restore_116 ?_
    rw [show (2 : Int32) * nI i = nI (2 * i) from pk_mul 2 i]
    refine pm_iald dX12_restore_117 rfl (th_in (by omega) (by decide)) ?_
    rw [th_cl (by omega)]
    show pm_W _ _ _ _ _ _ (.int (A 23 (2 * i)) :: _) _ _ _ _
    refine pm_iast (w2 := (_, _, _, _, _, _, _, _, [_, _, _, _, _, _, _, _, _, _, _, _, _, _, _, _, _, _, _, _, _, _, _, _])) dX12_restore_118 rfl (th_in (by omega) (by decide)) rfl ?_
    rw [th_cl (by omega)]
    refine pm_aload_n dX12_restore_119 rfl rfl ?_
    refine pm_get fl_RX12_56_12 dX12_restore_120 rfl rfl ?_
    refine pm_iload_n dX12_restore_123 rfl rfl ?_
    refine pm_aload_n dX12_restore_124 rfl rfl ?_
    refine pm_get fl_RX12_77_12 dX12_restore_125 rfl rfl ?_
    refine pm_iconst (v := 2) dX12_restore_128 (by decide) ?_
    refine pm_iload_n dX12_restore_129 rfl rfl ?_
    refine pm_imul dX12_restore_130 ?_
    rw [show (2 : Int32) * nI i = nI (2 * i) from pk_mul 2 i]
    refine pm_iconst (v := 1) dX12_restore_131 (by decide) ?_
    refine pm_iadd dX12_restore_132 ?_
    rw [show nI (2 * i) + 1 = nI (2 * i + 1) from nI_1 _]
    refine pm_iald dX12_restore_133 rfl (th_in (by omega) (by decide)) ?_
    rw [th_cl (by omega)]
    show pm_W _ _ _ _ _ _ (.int (A 23 (2 * i + 1)) :: _) _ _ _ _
    refine pm_iast (w2 := (_, _, _, _, _, _, _, _, [_, _, _, _, _, _, _, _, _, _, _, _, _, _, _, _, _, _, _, _, _, _, _, _])) dX12_restore_134 rfl (th_in (by omega) (by decide)) rfl ?_
    rw [th_cl (by omega)]
    refine pm_iinc (lv2 := [(1, _), (0, _)]) dX12_restore_135 rfl (nI_1 i) (Nat.le_of_ble_eq_true rfl) rfl ?_
    refine pm_goto (tgt := 99) dX12_restore_138 (by decide) ?_
    refine pm_pick [0, 1] rfl ?_
    exact k hlt (upd u i (A 23 (2 * i))) (upd v i (A 23 (2 * i + 1))) (by rw [hu]; exact th_pfs (fun q => A 23 (2 * q)) (A 15) i) (by rw [hv]; exact th_pfs (fun q => A 23 (2 * q + 1)) (A 16) i)

set_option maxHeartbeats 600000 in
set_option maxRecDepth 100000 in
theorem c_X12_restore {l : Launch} {G : pm_G} {ad : Nat → Nat → Nat} {a0 a3 a4 a5 a6 a7 : List pm_A} {a1 a2 : Nat → Option pm_A} {S : Nat → Nat} {A : Nat → Nat → Int32} {s : Nat → Int32} {B : Nat → Nat → Int32} {hs : Int64} {Q : pm_T} (hI : th_I S A) (hQ : Q ad (some (.int (th_rsV S))) (a0, a1, a2, a3, a4, a5, a6, a7, th_mp ad (th_rsS S) (th_rsA S A) s B hs)) : pm_C l G m_X12_restore [.ref (ad 8 0)] ad (a0, a1, a2, a3, a4, a5, a6, a7, th_mp ad S A s B hs) Q := by
  have h8 := hI.2.2.2.2.1.1
  have h10 := hI.2.2.2.2.2.1.1
  have h42 := hI.2.2.2.2.2.2.2
  have h421 := h42.1
  have h40 := h42.2.1
  refine pm_met (by decide) (Nat.le_of_ble_eq_true rfl) ?_
  refine pm_aload_n dX12_restore_0 rfl rfl ?_
  refine pm_get fl_RX12_287_12 dX12_restore_1 rfl rfl ?_
  refine pm_if_ne (tgt := 10) dX12_restore_4 (by decide) (fun c_4 => ?_) (fun c_4 => ?_)
  · have e : ¬ S 42 = 0 := fun e => c_4 (by rw [e]; rfl)
    rw [th_rsV, th_rsS, th_rsA, if_neg e, if_neg e, if_neg e] at hQ
    refine pm_iconst (v := 0) dX12_restore_10 (by decide) ?_
    refine pm_istore_n (lv2 := [(1, _), (0, _)]) dX12_restore_11 rfl (Nat.le_of_ble_eq_true rfl) rfl ?_
    suffices H : ∀ i, i ≤ S 40 → ∀ a b c d : Nat → Int32, a = th_pf (fun q => A 22 (4 * q)) (A 11) i → b = th_pf (fun q => A 22 (4 * q + 1)) (A 12) i → c = th_pf (fun q => A 22 (4 * q + 2)) (A 13) i → d = th_pf (fun q => A 22 (4 * q + 3)) (A 14) i → pm_W l G m_X12_restore ad 12 [(1, .int (nI i)), (0, .ref (ad 8 0))] [] (a0, a1, a2, a3, a4, a5, a6, a7, th_mp ad S (va_up (va_up (va_up (va_up A 11 a) 12 b) 13 c) 14 d) s B hs) 0 0 Q from H 0 (Nat.zero_le _) (A 11) (A 12) (A 13) (A 14) (th_pf0 _ _).symm (th_pf0 _ _).symm (th_pf0 _ _).symm (th_pf0 _ _).symm
    refine th_loop _ ?_
    intro i hi k a b c d ha hb hc hd
    refine pm_iload_n dX12_restore_12 rfl rfl ?_
    refine pm_aload_n dX12_restore_13 rfl rfl ?_
    refine pm_get fl_RX12_281_12 dX12_restore_14 rfl rfl ?_
    refine pm_icmp_ge (tgt := 97) dX12_restore_17 (by decide) (fun c_17 => ?_) (fun c_17 => ?_)
    · have he : i = S 40 := by
        rw [nI_leI (by omega) (by omega)] at c_17
        omega
      subst he
      exact f_X12_restore hQ ha hb hc hd
    · have hlt : i < S 40 := by
        rw [nI_leI (by omega) (by omega)] at c_17
        omega
      have h13 := (h42.2.2.2.1 i hlt).2
      refine pm_aload_n dX12_restore_20 rfl rfl ?_
      refine pm_get fl_RX12_40_12 dX12_restore_21 rfl rfl ?_
      refine pm_iload_n dX12_restore_24 rfl rfl ?_
      refine pm_aload_n dX12_restore_25 rfl rfl ?_
      refine pm_get fl_RX12_74_12 dX12_restore_26 rfl rfl ?_
      refine pm_iconst (v := 4) dX12_restore_29 (by decide) ?_
      refine pm_iload_n dX12_restore_30 rfl rfl ?_
      refine pm_imul dX12_restore_31 ?_
      rw [show (4 : Int32) * nI i = nI (4 * i) from pk_mul 4 i]
      refine pm_iald dX12_restore_32 rfl (th_in (by omega) (by decide)) ?_
      rw [th_cl (by omega)]
      show pm_W _ _ _ _ _ _ (.int (A 22 (4 * i)) :: _) _ _ _ _
      refine pm_iast (w2 := (_, _, _, _, _, _, _, _, [_, _, _, _, _, _, _, _, _, _, _, _, _, _, _, _, _, _, _, _, _, _, _, _])) dX12_restore_33 rfl (th_in (by omega) (by decide)) rfl ?_
      rw [th_cl (by omega)]
      refine pm_aload_n dX12_restore_34 rfl rfl ?_
      refine pm_get fl_RX12_43_12 dX12_restore_35 rfl rfl ?_
      refine pm_iload_n dX12_restore_38 rfl rfl ?_
      refine pm_aload_n dX12_restore_39 rfl rfl ?_
      refine pm_get fl_RX12_74_12 dX12_restore_40 rfl rfl ?_
      refine pm_iconst (v := 4) dX12_restore_43 (by decide) ?_
      refine pm_iload_n dX12_restore_44 rfl rfl ?_
      refine pm_imul dX12_restore_45 ?_
      rw [show (4 : Int32) * nI i = nI (4 * i) from pk_mul 4 i]
      refine pm_iconst (v := 1) dX12_restore_46 (by decide) ?_
      refine pm_iadd dX12_restore_47 ?_
      rw [show nI (4 * i) + 1 = nI (4 * i + 1) from nI_add _ 1]
      refine pm_iald dX12_restore_48 rfl (th_in (by omega) (by decide)) ?_
      rw [th_cl (by omega)]
      show pm_W _ _ _ _ _ _ (.int (A 22 (4 * i + 1)) :: _) _ _ _ _
      refine pm_iast (w2 := (_, _, _, _, _, _, _, _, [_, _, _, _, _, _, _, _, _, _, _, _, _, _, _, _, _, _, _, _, _, _, _, _])) dX12_restore_49 rfl (th_in (by omega) (by decide)) rfl ?_
      rw [th_cl (by omega)]
      refine pm_aload_n dX12_restore_50 rfl rfl ?_
      refine pm_get fl_RX12_46_12 dX12_restore_51 rfl rfl ?_
      refine pm_iload_n dX12_restore_54 rfl rfl ?_
      refine pm_aload_n dX12_restore_55 rfl rfl ?_
      refine pm_get fl_RX12_74_12 dX12_restore_56 rfl rfl ?_
      refine pm_iconst (v := 4) dX12_restore_59 (by decide) ?_
      refine pm_iload_n dX12_restore_60 rfl rfl ?_
      refine pm_imul dX12_restore_61 ?_
      rw [show (4 : Int32) * nI i = nI (4 * i) from pk_mul 4 i]
      refine pm_iconst (v := 2) dX12_restore_62 (by decide) ?_
      refine pm_iadd dX12_restore_63 ?_
      rw [show nI (4 * i) + 2 = nI (4 * i + 2) from nI_add _ 2]
      refine pm_iald dX12_restore_64 rfl (th_in (by omega) (by decide)) ?_
      rw [th_cl (by omega)]
      show pm_W _ _ _ _ _ _ (.int (A 22 (4 * i + 2)) :: _) _ _ _ _
      refine pm_iconst (v := 1) dX12_restore_65 (by decide) ?_
      refine pm_icmp_ne (tgt := 73) dX12_restore_66 (by decide) (fun c_66 => ?_) (fun c_66 => ?_)
      · refine pm_iconst (v := 0) dX12_restore_73 (by decide) ?_
        refine pm_zast (w2 := (_, _, _, _, _, _, _, _, [_, _, _, _, _, _, _, _, _, _, _, _, _, _, _, _, _, _, _, _, _, _, _, _])) dX12_restore_74 rfl (th_in (by omega) (by decide)) rfl ?_
        rw [th_cl (by omega)]
        rw [show vp_nar .boolean 0 = A 22 (4 * i + 2) from ((h13.resolve_right c_66).trans rfl).symm]
        refine pm_aload_n dX12_restore_75 rfl rfl ?_
        refine pm_get fl_RX12_50_12 dX12_restore_76 rfl rfl ?_
        refine pm_iload_n dX12_restore_79 rfl rfl ?_
        refine pm_aload_n dX12_restore_80 rfl rfl ?_
        refine pm_get fl_RX12_74_12 dX12_restore_81 rfl rfl ?_
        refine pm_iconst (v := 4) dX12_restore_84 (by decide) ?_
        refine pm_iload_n dX12_restore_85 rfl rfl ?_
        refine pm_imul dX12_restore_86 ?_
        rw [show (4 : Int32) * nI i = nI (4 * i) from pk_mul 4 i]
        refine pm_iconst (v := 3) dX12_restore_87 (by decide) ?_
        refine pm_iadd dX12_restore_88 ?_
        rw [show nI (4 * i) + 3 = nI (4 * i + 3) from nI_add _ 3]
        refine pm_iald dX12_restore_89 rfl (th_in (by omega) (by decide)) ?_
        rw [th_cl (by omega)]
        show pm_W _ _ _ _ _ _ (.int (A 22 (4 * i + 3)) :: _) _ _ _ _
        refine pm_iast (w2 := (_, _, _, _, _, _, _, _, [_, _, _, _, _, _, _, _, _, _, _, _, _, _, _, _, _, _, _, _, _, _, _, _])) dX12_restore_90 rfl (th_in (by omega) (by decide)) rfl ?_
        rw [th_cl (by omega)]
        refine pm_iinc (lv2 := [(1, _), (0, _)]) dX12_restore_91 rfl (nI_1 i) (Nat.le_of_ble_eq_true rfl) rfl ?_
        refine pm_goto (tgt := 12) dX12_restore_94 (by decide) ?_
        refine pm_pick [0, 1] rfl ?_
        refine k hlt (upd a i (A 22 (4 * i))) (upd b i (A 22 (4 * i + 1))) (upd c i (A 22 (4 * i + 2))) (upd d i (A 22 (4 * i + 3))) ?_ ?_ ?_ ?_
        · rw [ha]; exact th_pfs (fun q => A 22 (4 * q)) (A 11) i
        · rw [hb]; exact th_pfs (fun q => A 22 (4 * q + 1)) (A 12) i
        · rw [hc]; exact th_pfs (fun q => A 22 (4 * q + 2)) (A 13) i
        · rw [hd]; exact th_pfs (fun q => A 22 (4 * q + 3)) (A 14) i
      · refine pm_iconst (v := 1) dX12_restore_69 (by decide) ?_
        refine pm_goto (tgt := 74) dX12_restore_70 (by decide) ?_
        refine pm_zast (w2 := (_, _, _, _, _, _, _, _, [_, _, _, _, _, _, _, _, _, _, _, _, _, _, _, _, _, _, _, _, _, _, _, _])) dX12_restore_74 rfl (th_in (by omega) (by decide)) rfl ?_
        rw [th_cl (by omega)]
        rw [show vp_nar .boolean 1 = A 22 (4 * i + 2) from (c_66.trans rfl).symm]
        refine pm_aload_n dX12_restore_75 rfl rfl ?_
        refine pm_get fl_RX12_50_12 dX12_restore_76 rfl rfl ?_
        refine pm_iload_n dX12_restore_79 rfl rfl ?_
        refine pm_aload_n dX12_restore_80 rfl rfl ?_
        refine pm_get fl_RX12_74_12 dX12_restore_81 rfl rfl ?_
        refine pm_iconst (v := 4) dX12_restore_84 (by decide) ?_
        refine pm_iload_n dX12_restore_85 rfl rfl ?_
        refine pm_imul dX12_restore_86 ?_
        rw [show (4 : Int32) * nI i = nI (4 * i) from pk_mul 4 i]
        refine pm_iconst (v := 3) dX12_restore_87 (by decide) ?_
        refine pm_iadd dX12_restore_88 ?_
        rw [show nI (4 * i) + 3 = nI (4 * i + 3) from nI_add _ 3]
        refine pm_iald dX12_restore_89 rfl (th_in (by omega) (by decide)) ?_
        rw [th_cl (by omega)]
        show pm_W _ _ _ _ _ _ (.int (A 22 (4 * i + 3)) :: _) _ _ _ _
        refine pm_iast (w2 := (_, _, _, _, _, _, _, _, [_, _, _, _, _, _, _, _, _, _, _, _, _, _, _, _, _, _, _, _, _, _, _, _])) dX12_restore_90 rfl (th_in (by omega) (by decide)) rfl ?_
        rw [th_cl (by omega)]
        refine pm_iinc (lv2 := [(1, _), (0, _)]) dX12_restore_91 rfl (nI_1 i) (Nat.le_of_ble_eq_true rfl) rfl ?_
        refine pm_goto (tgt := 12) dX12_restore_94 (by decide) ?_
        refine pm_pick [0, 1] rfl ?_
        refine k hlt (upd a i (A 22 (4 * i))) (upd b i (A 22 (4 * i + 1))) (upd c i (A 22 (4 * i + 2))) (upd d i (A 22 (4 * i + 3))) ?_ ?_ ?_ ?_
        · rw [ha]; exact th_pfs (fun q => A 22 (4 * q)) (A 11) i
        · rw [hb]; exact th_pfs (fun q => A 22 (4 * q + 1)) (A 12) i
        · rw [hc]; exact th_pfs (fun q => A 22 (4 * q + 2)) (A 13) i
        · rw [hd]; exact th_pfs (fun q => A 22 (4 * q + 3)) (A 14) i
  · refine pm_bipush (v := (-103)) dX12_restore_7 (by decide) ?_
    refine pm_iret dX12_restore_9 rfl rfl rfl ?_
    have e : S 42 = 0 := (nI_eq (b := 0) (by omega) (by decide)).mp c_4
    rw [th_rsV, th_rsS, th_rsA, if_pos e, if_pos e, if_pos e] at hQ
    exact hQ

set_option maxHeartbeats 600000 in
set_option maxRecDepth 100000 in
theorem f_X11_restore {l : Launch} {G : pm_G} {ad : Nat → Nat → Nat} {S : Nat → Nat} {A : Nat → Nat → Int32} {X : Nat → Int32} {Y : Nat → Nat → Int32} {F : Nat → Int64} {Hd Cs : Nat → Option Nat} {m : List pm_A} {Q : pm_T} {a b c d : Nat → Int32} {z : Int32} (hJ : th_J ad S A Y Cs) (hQ : Q ad (some (.int (nI (S 11)))) (th_cw ad (va_up S 26 (S 41)) (th_ra S A) X Y F Hd Cs m)) (ha : a = th_pf (Y 20) (A 11) (S 40)) (hb : b = th_pf (Y 21) (A 12) (S 40)) (hc : c = th_pf (Y 22) (A 13) (S 40)) (hd : d = th_pf (Y 23) (A 14) (S 40)) : pm_W l G m_X11_restore ad 53 [(1, .int z), (0, .ref (ad 0 0))] [] (th_cw ad S (va_up (va_up (va_up (va_up A 11 a) 12 b) 13 c) 14 d) X Y F Hd Cs m) 0 0 Q := by
  refine pm_aload_n dX11_restore_53 rfl rfl ?_
  refine pm_get fl_RX11_38_11 dX11_restore_54 rfl rfl ?_
  refine pm_callV (M2 := m_X3_goBack) (As := []) ok_X3_goBack (ci := 3) rfl kw_899 kw_900 kw_901 dX11_restore_57 rfl rfl rfl (Nat.le_of_ble_eq_true rfl) ⟨⟨Nat.le_of_ble_eq_true rfl, Nat.le_of_ble_eq_true rfl⟩, Nat.le_of_ble_eq_true rfl, Nat.le_of_ble_eq_true rfl⟩ ?_
  refine c_X3_goBack (A := (va_up (va_up (va_up (va_up A 11 a) 12 b) 13 c) 14 d)) ?_
  refine pm_aload_n dX11_restore_60 rfl rfl ?_
  refine pm_get fl_RX11_103_11 dX11_restore_61 rfl rfl ?_
  refine pm_iret dX11_restore_64 rfl rfl rfl ?_
  subst ha hb hc hd
  have e20 := th_pfe (g := A 11) (fun q hq => (hJ.2.1 q hq).1)
  have e21 := th_pfe (g := A 12) (fun q hq => (hJ.2.1 q hq).2.1)
  have e22 := th_pfe (g := A 13) (fun q hq => (hJ.2.1 q hq).2.2.1)
  have e23 := th_pfe (g := A 14) (fun q hq => (hJ.2.1 q hq).2.2.2)
  unfold th_ra at hQ
  rw [← e20, ← e21, ← e22, ← e23] at hQ
  exact hQ

set_option maxHeartbeats 600000 in
set_option maxRecDepth 100000 in
theorem c_X11_restore {l : Launch} {G : pm_G} {ad : Nat → Nat → Nat} {S : Nat → Nat} {A : Nat → Nat → Int32} {X : Nat → Int32} {Y : Nat → Nat → Int32} {F : Nat → Int64} {Hd Cs : Nat → Option Nat} {m : List pm_A} {Q : pm_T} (hI : th_I S A) (hJ : th_J ad S A Y Cs) (hQ : Q ad (some (.int (th_rsV S))) (th_cw ad (th_rsS S) (th_rsA S A) X Y F Hd Cs m)) : pm_C l G m_X11_restore [.ref (ad 0 0)] ad (th_cw ad S A X Y F Hd Cs m) Q := by
  have h8 := hI.2.2.2.2.1.1
  have h10 := hI.2.2.2.2.2.1.1
  have h42 := hI.2.2.2.2.2.2.2
  have h40 := h42.2.1
  refine pm_met (by decide) (Nat.le_of_ble_eq_true rfl) ?_
  refine pm_aload_n dX11_restore_0 rfl rfl ?_
  refine pm_get fl_RX11_64_11 dX11_restore_1 rfl rfl ?_
  by_cases e : S 42 = 0
  · rw [th_rsV, th_rsS, th_rsA, if_pos e, if_pos e, if_pos e] at hQ
    have ekp : th_kp S = -1 := if_pos e
    rw [ekp]
    refine pm_if_ge (tgt := 10) dX11_restore_4 (by decide) (fun c_4 => absurd c_4 (by decide)) (fun c_4 => ?_)
    refine pm_bipush (v := (-103)) dX11_restore_7 (by decide) ?_
    refine pm_iret dX11_restore_9 rfl rfl rfl ?_
    exact hQ
  rw [th_rsV, th_rsS, th_rsA, if_neg e, if_neg e, if_neg e] at hQ
  have ekp : th_kp S = nI (S 40) := if_neg e
  rw [ekp]
  refine pm_if_ge (tgt := 10) dX11_restore_4 (by decide) (fun c_4 => ?_) (fun c_4 => absurd (Int32.not_lt.mp (nI_pos (by omega))) c_4)
  refine pm_iconst (v := 0) dX11_restore_10 (by decide) ?_
  refine pm_istore_n (lv2 := [(1, _), (0, _)]) dX11_restore_11 rfl (Nat.le_of_ble_eq_true rfl) rfl ?_
  suffices H : ∀ i, i ≤ S 40 → ∀ a b c d : Nat → Int32, a = th_pf (Y 20) (A 11) i → b = th_pf (Y 21) (A 12) i → c = th_pf (Y 22) (A 13) i → d = th_pf (Y 23) (A 14) i → pm_W l G m_X11_restore ad 12 [(1, .int (nI i)), (0, .ref (ad 0 0))] [] (th_cw ad S (va_up (va_up (va_up (va_up A 11 a) 12 b) 13 c) 14 d) X Y F Hd Cs m) 0 0 Q from H 0 (Nat.zero_le _) (A 11) (A 12) (A 13) (A 14) (th_pf0 _ _).symm (th_pf0 _ _).symm (th_pf0 _ _).symm (th_pf0 _ _).symm
  refine th_loop _ ?_
  intro i hi k a b c d ha hb hc hd
  refine pm_iload_n dX11_restore_12 rfl rfl ?_
  refine pm_aload_n dX11_restore_13 rfl rfl ?_
  refine pm_get fl_RX11_64_11 dX11_restore_14 rfl rfl ?_
  rw [ekp]
  refine pm_icmp_ge (tgt := 53) dX11_restore_17 (by decide) (fun c_17 => ?_) (fun c_17 => ?_)
  · have he : i = S 40 := by
      rw [nI_leI (by omega) (by omega)] at c_17
      omega
    subst he
    exact f_X11_restore hJ hQ ha hb hc hd
  · have hlt4 : i < S 40 := by
      rw [nI_leI (by omega) (by omega)] at c_17
      omega
    have hlt : i < S 11 := by omega
    obtain ⟨⟨ki, hki, eki⟩, -⟩ := th_nk hI hlt
    have h13 : Y 22 i = 0 ∨ Y 22 i = 1 := by
      rw [(hJ.2.1 i hlt4).2.2.1]
      exact (h42.2.2.2.1 i hlt4).2
    have hwi : th_g2 ad S (va_up (va_up (va_up (va_up A 11 a) 12 b) 13 c) 14 d) Y i = some (.inr (pm_kc (th_n (A 6 i)), th_nf ad (va_up (va_up (va_up (va_up A 11 a) 12 b) 13 c) 14 d) Y i)) := th_nt_get hlt
    rw [eki, th_n_nI (by omega)] at hwi
    refine pm_iload_n dX11_restore_20 rfl rfl ?_
    refine pm_aload_n dX11_restore_21 rfl rfl ?_
    refine pm_get fl_RX11_24_11 dX11_restore_22 rfl rfl ?_
    refine pm_alen (by decide) dX11_restore_25 rfl ?_
    show pm_W _ _ _ _ _ _ (.int (nI 8) :: _) _ _ _ _
    refine pm_icmp_ge (tgt := 53) dX11_restore_26 (by decide) (fun c_26 => absurd c_26 (by rw [nI_leI (by decide) (by omega)]; omega)) (fun c_26 => ?_)
    refine pm_aload_n dX11_restore_29 rfl rfl ?_
    refine pm_get fl_RX11_24_11 dX11_restore_30 rfl rfl ?_
    refine pm_iload_n dX11_restore_33 rfl rfl ?_
    refine pm_aaldN dX11_restore_34 rfl (th_in (by omega) (by decide)) ?_
    rw [th_cl (by omega)]
    unfold th_rs
    rw [if_pos hlt]
    show pm_W _ _ _ _ _ _ (.ref (ad 2 i) :: _) _ _ _ _
    refine pm_ifnull dX11_restore_35 ?_
    refine pm_aload_n dX11_restore_38 rfl rfl ?_
    refine pm_get fl_RX11_24_11 dX11_restore_39 rfl rfl ?_
    refine pm_iload_n dX11_restore_42 rfl rfl ?_
    refine pm_aaldN dX11_restore_43 rfl (th_in (by omega) (by decide)) ?_
    rw [th_cl (by omega)]
    unfold th_rs
    rw [if_pos hlt]
    show pm_W _ _ _ _ _ _ (.ref (ad 2 i) :: _) _ _ _ _
    refine cn_RX11_255 (M := m_X11_restore) (As := []) dX11_restore_44 (show pm_get? _ 2 i = _ from hwi) rfl (Nat.le_of_ble_eq_true rfl) ⟨⟨Nat.le_of_ble_eq_true rfl, Nat.le_of_ble_eq_true rfl⟩, Nat.le_of_ble_eq_true rfl, Nat.le_of_ble_eq_true rfl⟩ ?_
    refine c_X4_goBack hlt eki hki h13 ?_
    refine pm_iinc (lv2 := [(1, _), (0, _)]) dX11_restore_47 rfl (nI_1 i) (Nat.le_of_ble_eq_true rfl) rfl ?_
    refine pm_goto (tgt := 12) dX11_restore_50 (by decide) ?_
    refine pm_pick [0, 1] rfl ?_
    exact k hlt4 (upd a i (Y 20 i)) (upd b i (Y 21 i)) (upd c i (Y 22 i)) (upd d i (Y 23 i)) (by rw [ha]; exact th_pfs _ _ i) (by rw [hb]; exact th_pfs _ _ i) (by rw [hc]; exact th_pfs _ _ i) (by rw [hd]; exact th_pfs _ _ i)

