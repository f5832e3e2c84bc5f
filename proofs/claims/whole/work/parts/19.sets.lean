set_option maxHeartbeats 600000 in
set_option maxRecDepth 100000 in
theorem c_X3_countFight {l : Launch} {G : pm_G} {ad : Nat → Nat → Nat} {S : Nat → Nat} {A : Nat → Nat → Int32} {X : Nat → Int32} {Y : Nat → Nat → Int32} {F : Nat → Int64} {Hd Cs : Nat → Option Nat} {m : List pm_A} {Q : pm_T} {t : Nat → Int32} {a b ka kb sa sb : Nat} (hI : th_I S A) (ha : a < S 11) (hb : b < S 11) (hwa : th_g2 ad S A Y a = some (.inr (pm_kc ka, th_nf ad A Y a))) (hwb : th_g2 ad S A Y b = some (.inr (pm_kc kb, th_nf ad A Y b))) (hsa : sa < S 2) (hsb : sb < S 2) (esa : A 7 a = nI sa) (esb : A 7 b = nI sb) (hQ : Q ad none (th_cw ad S A X (va_up Y 4 (upd t a (th_meet A (S 6) sa sb (t a) (t b)))) F Hd Cs m)) : pm_C l G m_X3_countFight [.ref (ad 4 0), .ref (ad 2 a), .ref (ad 2 b), .int (nI (S 6))] ad (th_cw ad S A X (va_up Y 4 t) F Hd Cs m) Q := by
  have h8 := hI.2.2.2.2.1.1
  have h3 := hI.2.1.1
  refine pm_met (by decide) (Nat.le_of_ble_eq_true rfl) ?_
  refine pm_aload_n dX3_countFight_0 rfl rfl ?_
  refine pm_ifnull dX3_countFight_1 ?_
  refine pm_aload_n dX3_countFight_4 rfl rfl ?_
  refine pm_ifnull dX3_countFight_5 ?_
  refine pm_aload_n dX3_countFight_8 rfl rfl ?_
  refine pm_get fl_RX3_18_3 dX3_countFight_9 rfl rfl ?_
  refine pm_aload_n dX3_countFight_12 rfl rfl ?_
  refine pm_get (fn_RX3_28 _) dX3_countFight_13 (show pm_get? _ 2 a = _ from hwa) rfl ?_
  refine pm_iald dX3_countFight_16 rfl (th_in (by omega) (by decide)) ?_
  rw [th_cl (by omega)]
  refine pm_istore (lv2 := [(4, _), (0, _), (1, _), (2, _), (3, _)]) dX3_countFight_17 (Nat.le_of_ble_eq_true rfl) rfl ?_
  refine pm_aload_n dX3_countFight_19 rfl rfl ?_
  refine pm_get fl_RX3_18_3 dX3_countFight_20 rfl rfl ?_
  refine pm_aload_n dX3_countFight_23 rfl rfl ?_
  refine pm_get (fn_RX3_28 _) dX3_countFight_24 (show pm_get? _ 2 b = _ from hwb) rfl ?_
  refine pm_iald dX3_countFight_27 rfl (th_in (by omega) (by decide)) ?_
  rw [th_cl (by omega)]
  refine pm_istore (lv2 := [(5, _), (4, _), (0, _), (1, _), (2, _), (3, _)]) dX3_countFight_28 (Nat.le_of_ble_eq_true rfl) rfl ?_
  refine pm_aload_n dX3_countFight_30 rfl rfl ?_
  refine pm_get fl_RX3_18_3 dX3_countFight_31 rfl rfl ?_
  refine pm_aload_n dX3_countFight_34 rfl rfl ?_
  refine pm_get (fn_RX3_28 _) dX3_countFight_35 (show pm_get? _ 2 a = _ from hwa) rfl ?_
  refine pm_aload_n dX3_countFight_38 rfl rfl ?_
  refine pm_get (fn_RX3_43 _) dX3_countFight_39 (show pm_get? _ 2 a = _ from hwa) rfl ?_
  refine pm_aload_n dX3_countFight_42 rfl rfl ?_
  refine pm_get (fn_RX3_43 _) dX3_countFight_43 (show pm_get? _ 2 b = _ from hwb) rfl ?_
  refine pm_iload dX3_countFight_46 rfl ?_
  refine pm_iload dX3_countFight_48 rfl ?_
  refine pm_iload_n dX3_countFight_50 rfl rfl ?_
  rw [esa, esb, th_n_nI (by omega), th_n_nI (by omega)]
  refine pm_callV (M2 := m_X10_countOver) (As := [_, _, _, _]) ok_X10_countOver (ci := 10) rfl kw_682 kw_613 kw_614 dX3_countFight_51 (show pm_get? _ 1 sa = some (.inr (10, th_sf A sa)) from th_sc_get hsa) rfl rfl (Nat.le_of_ble_eq_true rfl) ⟨⟨Nat.le_of_ble_eq_true rfl, Nat.le_of_ble_eq_true rfl⟩, Nat.le_of_ble_eq_true rfl, Nat.le_of_ble_eq_true rfl⟩ ?_
  refine c_X10_countOver hI.2.1 hsa hsb hI.2.2.2.1 (th_sc_get hsa) (th_sc_get hsb) ?_
  refine pm_iast (w2 := (_, _, _, _, [_, _, _, _, _], _, _, _, _)) dX3_countFight_54 rfl (th_in (by omega) (by decide)) rfl ?_
  rw [th_cl (by omega)]
  refine pm_vret dX3_countFight_55 rfl rfl rfl ?_
  exact hQ

set_option maxHeartbeats 600000 in
set_option maxRecDepth 100000 in
theorem f_X3_follow {l : Launch} {G : pm_G} {ad : Nat → Nat → Nat} {S : Nat → Nat} {A : Nat → Nat → Int32} {X : Nat → Int32} {Y : Nat → Nat → Int32} {F : Nat → Int64} {Hd Cs : Nat → Option Nat} {m : List pm_A} {Q : pm_T} {n : Nat} {z : Int32} (hI : th_I S A) (hT : th_T S A Y) (hn : n < 1024) (h1 : (th_lb A (S 6) n (S 26)).1 = true → ∀ t, (∀ q, q < S 11 → t q = (th_lb A (S 6) n (S 26)).2.2 q) → Q ad (some (.int 1)) (th_cw ad S A X (va_up Y 4 t) F Hd Cs m)) (h0 : (th_lb A (S 6) n (S 26)).1 = false → ∀ t, Q ad (some (.int 0)) (th_cw ad S A X (va_up Y 4 t) F Hd Cs m)) {t : Nat → Int32} (ht : ∀ q, q < S 11 → t q = A 9 q) : pm_W l G m_X3_follow ad 37 [(4, .int z), (0, .ref (ad 4 0)), (1, .int (nI n)), (2, .ref (ad 0 2)), (3, .int (nI (S 6)))] [] (th_cw ad S A X (va_up Y 4 t) F Hd Cs m) 0 0 Q := by
  have h8 := hI.2.2.2.2.1.1
  have h3 := hI.2.1.1
  have h10 := hI.2.2.2.2.2.1.1
  refine pm_iconst (v := 0) dX3_follow_37 (by decide) ?_
  refine pm_istore (lv2 := [(4, _), (0, _), (1, _), (2, _), (3, _)]) dX3_follow_38 (Nat.le_of_ble_eq_true rfl) rfl ?_
  refine pm_iconst (v := 0) dX3_follow_40 (by decide) ?_
  refine pm_istore (lv2 := [(5, _), (4, _), (0, _), (1, _), (2, _), (3, _)]) dX3_follow_41 (Nat.le_of_ble_eq_true rfl) rfl ?_
  suffices H : ∀ f, f ≤ S 26 → ∀ br tt t, th_lb A (S 6) n f = (true, br, tt) → br < 256 → (∀ q, q < S 11 → t q = tt q) → pm_W l G m_X3_follow ad 43 [(5, .int (nI f)), (4, .int (nI br)), (0, .ref (ad 4 0)), (1, .int (nI n)), (2, .ref (ad 0 2)), (3, .int (nI (S 6)))] [] (th_cw ad S A X (va_up Y 4 t) F Hd Cs m) 0 0 Q from H 0 (Nat.zero_le _) 0 (A 9) t rfl (by decide) ht
  clear ht
  refine th_loop _ ?_
  intro f hf k br tt t hp hbr ht
  refine pm_iload dX3_follow_43 rfl ?_
  refine pm_aload_n dX3_follow_45 rfl rfl ?_
  refine pm_get fl_RX3_24_3 dX3_follow_46 rfl rfl ?_
  refine pm_icmp_ge (tgt := 136) dX3_follow_49 (by decide) (fun c_49 => ?_) (fun c_49 => ?_)
  · refine pm_iconst (v := 1) dX3_follow_136 (by decide) ?_
    refine pm_zret dX3_follow_137 rfl rfl rfl rfl ?_
    have hfe : f = S 26 := by
      rw [nI_leI (by omega) (by omega)] at c_49
      omega
    subst hfe
    rw [hp] at h1
    exact h1 rfl t ht
  · have hlt : f < S 26 := by
      rw [nI_leI (by omega) (by omega)] at c_49
      omega
    refine pm_iload_n dX3_follow_52 rfl rfl ?_
    refine pm_iload dX3_follow_53 rfl ?_
    refine pm_ishr dX3_follow_55 ?_
    refine pm_iconst (v := 1) dX3_follow_56 (by decide) ?_
    refine pm_iand dX3_follow_57 ?_
    rw [th_bit (by omega) (by omega)]
    refine pm_if_eq (tgt := 130) dX3_follow_58 (by decide) (fun c_58 => ?_) (fun c_58 => ?_)
    · refine pm_iinc (lv2 := [(5, _), (4, _), (0, _), (1, _), (2, _), (3, _)]) dX3_follow_130 rfl (nI_1 f) (Nat.le_of_ble_eq_true rfl) rfl ?_
      refine pm_goto (tgt := 43) dX3_follow_133 (by decide) ?_
      refine pm_pick [0, 1, 2, 3, 4, 5] rfl ?_
      have hbit : ¬ n / 2 ^ f % 2 = 1 := fun e => absurd c_58 (by rw [e]; decide)
      exact k hlt br tt t (by rw [th_lb0 hbit]; exact hp) hbr ht
    · have hbit : n / 2 ^ f % 2 = 1 := by
        have h2 : ¬ n / 2 ^ f % 2 = 0 := fun e => c_58 (by rw [e]; rfl)
        omega
      obtain ⟨a, b, ha, hb, hne, ea, eb⟩ := hI.2.2.2.2.2.1.2 f hlt
      have eya : Y 2 f = nI a := (hT f hlt).1.trans ea
      have eyb : Y 3 f = nI b := (hT f hlt).2.trans eb
      obtain ⟨⟨ka, hka, eka⟩, ⟨sa, hsa, esa⟩, -⟩ := th_nk hI ha
      obtain ⟨⟨kb, hkb, ekb⟩, ⟨sb, hsb, esb⟩, -⟩ := th_nk hI hb
      have hwa := th_nt_get (ad := ad) (A := A) (Y := Y) ha
      rw [eka, th_n_nI (by omega)] at hwa
      have hwb := th_nt_get (ad := ad) (A := A) (Y := Y) hb
      rw [ekb, th_n_nI (by omega)] at hwb
      refine pm_iload dX3_follow_61 rfl ?_
      refine pm_aload_n dX3_follow_63 rfl rfl ?_
      refine pm_get fl_RX3_9_3 dX3_follow_64 rfl rfl ?_
      refine pm_iload dX3_follow_67 rfl ?_
      refine pm_iald dX3_follow_69 rfl (th_in (by omega) (by decide)) ?_
      rw [th_cl (by omega)]
      show pm_W _ _ _ _ _ _ (.int (Y 2 f) :: _) _ _ _ _
      rw [eya]
      refine pm_ishr dX3_follow_70 ?_
      refine pm_iconst (v := 1) dX3_follow_71 (by decide) ?_
      refine pm_iand dX3_follow_72 ?_
      rw [th_bit (by omega) (by omega)]
      refine pm_if_ne (tgt := 91) dX3_follow_73 (by decide) (fun c_73 => ?_) (fun c_73 => ?_)
      · refine pm_iconst (v := 0) dX3_follow_91 (by decide) ?_
        refine pm_zret dX3_follow_92 rfl rfl rfl rfl ?_
        have hfl : (th_lb A (S 6) n (f + 1)).1 = false := by
          rw [th_lb1 hbit hp ea eb (by omega) (by omega) esa esb (by omega) (by omega)]
          simp [show ¬ br / 2 ^ a % 2 = 0 from fun e => c_73 (by rw [e]; rfl)]
        have hz := th_lb_f hfl (S 26 - (f + 1))
        rw [show f + 1 + (S 26 - (f + 1)) = S 26 by omega] at hz
        exact h0 hz t
      · refine pm_iload dX3_follow_76 rfl ?_
        refine pm_aload_n dX3_follow_78 rfl rfl ?_
        refine pm_get fl_RX3_15_3 dX3_follow_79 rfl rfl ?_
        refine pm_iload dX3_follow_82 rfl ?_
        refine pm_iald dX3_follow_84 rfl (th_in (by omega) (by decide)) ?_
        rw [th_cl (by omega)]
        show pm_W _ _ _ _ _ _ (.int (Y 3 f) :: _) _ _ _ _
        rw [eyb]
        refine pm_ishr dX3_follow_85 ?_
        refine pm_iconst (v := 1) dX3_follow_86 (by decide) ?_
        refine pm_iand dX3_follow_87 ?_
        rw [th_bit (by omega) (by omega)]
        refine pm_if_eq (tgt := 93) dX3_follow_88 (by decide) (fun c_88 => ?_) (fun c_88 => ?_)
        · refine pm_aload_n dX3_follow_93 rfl rfl ?_
          refine pm_aload_n dX3_follow_94 rfl rfl ?_
          refine pm_aload_n dX3_follow_95 rfl rfl ?_
          refine pm_get fl_RX3_9_3 dX3_follow_96 rfl rfl ?_
          refine pm_iload dX3_follow_99 rfl ?_
          refine pm_iald dX3_follow_101 rfl (th_in (by omega) (by decide)) ?_
          rw [th_cl (by omega)]
          show pm_W _ _ _ _ _ _ (.int (Y 2 f) :: _) _ _ _ _
          rw [eya]
          refine pm_aaldN dX3_follow_102 rfl (th_in (by omega) (by decide)) ?_
          rw [th_cl (by omega)]
          unfold th_rs
          rw [if_pos ha]
          show pm_W _ _ _ _ _ _ (.ref (ad 2 a) :: _) _ _ _ _
          refine pm_aload_n dX3_follow_103 rfl rfl ?_
          refine pm_aload_n dX3_follow_104 rfl rfl ?_
          refine pm_get fl_RX3_15_3 dX3_follow_105 rfl rfl ?_
          refine pm_iload dX3_follow_108 rfl ?_
          refine pm_iald dX3_follow_110 rfl (th_in (by omega) (by decide)) ?_
          rw [th_cl (by omega)]
          show pm_W _ _ _ _ _ _ (.int (Y 3 f) :: _) _ _ _ _
          rw [eyb]
          refine pm_aaldN dX3_follow_111 rfl (th_in (by omega) (by decide)) ?_
          rw [th_cl (by omega)]
          unfold th_rs
          rw [if_pos hb]
          show pm_W _ _ _ _ _ _ (.ref (ad 2 b) :: _) _ _ _ _
          refine pm_iload_n dX3_follow_112 rfl rfl ?_
          refine pm_callV (M2 := m_X3_countFight) (As := [_, _, _]) ok_X3_countFight (ci := 3) rfl kw_678 kw_680 kw_8 dX3_follow_113 rfl rfl rfl (Nat.le_of_ble_eq_true rfl) ⟨⟨Nat.le_of_ble_eq_true rfl, Nat.le_of_ble_eq_true rfl⟩, Nat.le_of_ble_eq_true rfl, Nat.le_of_ble_eq_true rfl⟩ ?_
          refine c_X3_countFight hI ha hb hwa hwb hsa hsb esa esb ?_
          refine pm_iload dX3_follow_116 rfl ?_
          refine pm_iconst (v := 1) dX3_follow_118 (by decide) ?_
          refine pm_aload_n dX3_follow_119 rfl rfl ?_
          refine pm_get fl_RX3_15_3 dX3_follow_120 rfl rfl ?_
          refine pm_iload dX3_follow_123 rfl ?_
          refine pm_iald dX3_follow_125 rfl (th_in (by omega) (by decide)) ?_
          rw [th_cl (by omega)]
          show pm_W _ _ _ _ _ _ (.int (Y 3 f) :: _) _ _ _ _
          rw [eyb]
          refine pm_ishl dX3_follow_126 ?_
          rw [th_sh1 b (by omega)]
          refine pm_ior dX3_follow_127 ?_
          rw [th_or]
          refine pm_istore (lv2 := [(4, _), (5, _), (0, _), (1, _), (2, _), (3, _)]) dX3_follow_128 (Nat.le_of_ble_eq_true rfl) rfl ?_
          refine pm_iinc (lv2 := [(5, _), (4, _), (0, _), (1, _), (2, _), (3, _)]) dX3_follow_130 rfl (nI_1 f) (Nat.le_of_ble_eq_true rfl) rfl ?_
          refine pm_goto (tgt := 43) dX3_follow_133 (by decide) ?_
          refine pm_pick [0, 1, 2, 3, 4, 5] rfl ?_
          refine k hlt (br ||| 2 ^ b) (upd tt a (th_meet A (S 6) sa sb (tt a) (tt b))) (upd t a (th_meet A (S 6) sa sb (t a) (t b))) ?_ (th_or256 hbr (by omega)) ?_
          · rw [th_lb1 hbit hp ea eb (by omega) (by omega) esa esb (by omega) (by omega)]
            simp [(nI_eq (b := 0) (by omega) (by decide)).mp c_73, (nI_eq (b := 0) (by omega) (by decide)).mp c_88]
          · intro q hq
            rw [ht a ha, ht b hb]
            by_cases e : q = a
            · rw [upd, upd, if_pos e, if_pos e]
            · rw [upd, upd, if_neg e, if_neg e]
              exact ht q hq
        · refine pm_iconst (v := 0) dX3_follow_91 (by decide) ?_
          refine pm_zret dX3_follow_92 rfl rfl rfl rfl ?_
          have hfl : (th_lb A (S 6) n (f + 1)).1 = false := by
            rw [th_lb1 hbit hp ea eb (by omega) (by omega) esa esb (by omega) (by omega)]
            simp [show ¬ br / 2 ^ b % 2 = 0 from fun e => c_88 (by rw [e]; rfl)]
          have hz := th_lb_f hfl (S 26 - (f + 1))
          rw [show f + 1 + (S 26 - (f + 1)) = S 26 by omega] at hz
          exact h0 hz t

set_option maxHeartbeats 600000 in
set_option maxRecDepth 100000 in
theorem c_X3_follow {l : Launch} {G : pm_G} {ad : Nat → Nat → Nat} {S : Nat → Nat} {A : Nat → Nat → Int32} {X : Nat → Int32} {Y : Nat → Nat → Int32} {F : Nat → Int64} {Hd Cs : Nat → Option Nat} {m : List pm_A} {Q : pm_T} {n : Nat} (hI : th_I S A) (hT : th_T S A Y) (hn : n < 1024) (h1 : (th_lb A (S 6) n (S 26)).1 = true → ∀ t, (∀ q, q < S 11 → t q = (th_lb A (S 6) n (S 26)).2.2 q) → Q ad (some (.int 1)) (th_cw ad S A X (va_up Y 4 t) F Hd Cs m)) (h0 : (th_lb A (S 6) n (S 26)).1 = false → ∀ t, Q ad (some (.int 0)) (th_cw ad S A X (va_up Y 4 t) F Hd Cs m)) : pm_C l G m_X3_follow [.ref (ad 4 0), .int (nI n), .ref (ad 0 2), .int (nI (S 6))] ad (th_cw ad S A X Y F Hd Cs m) Q := by
  have h8 := hI.2.2.2.2.1.1
  refine pm_met (by decide) (Nat.le_of_ble_eq_true rfl) ?_
  refine pm_iconst (v := 0) dX3_follow_0 (by decide) ?_
  refine pm_istore (lv2 := [(4, _), (0, _), (1, _), (2, _), (3, _)]) dX3_follow_1 (Nat.le_of_ble_eq_true rfl) rfl ?_
  suffices H : ∀ i, i ≤ S 11 → ∀ t : Nat → Int32, (∀ q, q < i → t q = A 9 q) → pm_W l G m_X3_follow ad 3 [(4, .int (nI i)), (0, .ref (ad 4 0)), (1, .int (nI n)), (2, .ref (ad 0 2)), (3, .int (nI (S 6)))] [] (th_cw ad S A X (va_up Y 4 t) F Hd Cs m) 0 0 Q from H 0 (Nat.zero_le _) (Y 4) (fun q h => absurd h (by omega))
  refine th_loop _ ?_
  intro i hi k t ht
  refine pm_iload dX3_follow_3 rfl ?_
  refine pm_aload_n dX3_follow_5 rfl rfl ?_
  refine pm_alen (by decide) dX3_follow_6 rfl ?_
  show pm_W _ _ _ _ _ _ (.int (nI 8) :: _) _ _ _ _
  refine pm_icmp_ge (tgt := 37) dX3_follow_7 (by decide) (fun c_7 => ?_) (fun c_7 => ?_)
  · have he : i = S 11 := by
      rw [nI_leI (by decide) (by omega)] at c_7
      omega
    exact f_X3_follow hI hT hn h1 h0 (fun q hq => ht q (by omega))
  · refine pm_aload_n dX3_follow_10 rfl rfl ?_
    refine pm_iload dX3_follow_11 rfl ?_
    have hi8 : i < 8 := by
      rw [nI_leI (by decide) (by omega)] at c_7
      omega
    refine pm_aaldN dX3_follow_13 rfl (th_in hi8 (by decide)) ?_
    rw [th_cl (by omega)]
    unfold th_rs
    by_cases hlt : i < S 11
    · rw [if_pos hlt]
      show pm_W _ _ _ _ _ _ (.ref (ad 2 i) :: _) _ _ _ _
      refine pm_ifnull dX3_follow_14 ?_
      refine pm_aload_n dX3_follow_17 rfl rfl ?_
      refine pm_get fl_RX3_18_3 dX3_follow_18 rfl rfl ?_
      refine pm_iload dX3_follow_21 rfl ?_
      refine pm_aload_n dX3_follow_23 rfl rfl ?_
      refine pm_iload dX3_follow_24 rfl ?_
      refine pm_aaldN dX3_follow_26 rfl (th_in hi8 (by decide)) ?_
      rw [th_cl (by omega)]
      unfold th_rs
      rw [if_pos hlt]
      show pm_W _ _ _ _ _ _ (.ref (ad 2 i) :: _) _ _ _ _
      refine pm_get (fn_RX3_36 _) dX3_follow_27 (show pm_get? _ 2 i = _ from th_nt_get hlt) rfl ?_
      refine pm_iast (w2 := (_, _, _, _, [_, _, _, _, _], _, _, _, _)) dX3_follow_30 rfl (th_in hi8 (by decide)) rfl ?_
      rw [th_cl (by omega)]
      refine pm_iinc (lv2 := [(4, _), (0, _), (1, _), (2, _), (3, _)]) dX3_follow_31 rfl (nI_1 i) (Nat.le_of_ble_eq_true rfl) rfl ?_
      refine pm_goto (tgt := 3) dX3_follow_34 (by decide) ?_
      refine pm_pick [0, 1, 2, 3, 4] rfl ?_
      refine k hlt (upd t i (A 9 i)) ?_
      intro q hq
      by_cases e : q = i
      · rw [upd, if_pos e, e]
      · rw [upd, if_neg e]
        exact ht q (by omega)
    · rw [if_neg hlt]
      show pm_W _ _ _ _ _ _ (.null :: _) _ _ _ _
      refine pm_ifnullN (tgt := 37) dX3_follow_14 (by decide) ?_
      exact f_X3_follow hI hT hn h1 h0 (fun q hq => ht q (by omega))

set_option maxHeartbeats 600000 in
set_option maxRecDepth 100000 in
theorem c_X3_followedCount {l : Launch} {G : pm_G} {ad : Nat → Nat → Nat} {S : Nat → Nat} {A : Nat → Nat → Int32} {X : Nat → Int32} {Y : Nat → Nat → Int32} {F : Nat → Int64} {Hd Cs : Nat → Option Nat} {m : List pm_A} {Q : pm_T} {t : Nat → Int32} {i ki : Nat} (hi : i < 8) (hwi : th_g2 ad S A Y i = some (.inr (pm_kc ki, th_nf ad A Y i))) (hQ : Q ad (some (.int (t i))) (th_cw ad S A X (va_up Y 4 t) F Hd Cs m)) : pm_C l G m_X3_followedCount [.ref (ad 4 0), .ref (ad 2 i)] ad (th_cw ad S A X (va_up Y 4 t) F Hd Cs m) Q := by
  refine pm_met (by decide) (Nat.le_of_ble_eq_true rfl) ?_
  refine pm_aload_n dX3_followedCount_0 rfl rfl ?_
  refine pm_get fl_RX3_18_3 dX3_followedCount_1 rfl rfl ?_
  refine pm_aload_n dX3_followedCount_4 rfl rfl ?_
  refine pm_get (fn_RX3_28 _) dX3_followedCount_5 (show pm_get? _ 2 i = _ from hwi) rfl ?_
  refine pm_iald dX3_followedCount_8 rfl (th_in hi (by decide)) ?_
  rw [th_cl (by omega)]
  refine pm_iret dX3_followedCount_9 rfl rfl rfl ?_
  exact hQ

theorem th_isp {n k : Nat} (h : k ≤ 10) : 2 ^ k ≤ 1024 := show 2 ^ k ≤ 2 ^ 10 from Nat.pow_le_pow_right (by decide) h
set_option maxHeartbeats 600000 in
set_option maxRecDepth 100000 in
theorem c_X3_hasSet {l : Launch} {G : pm_G} {ad : Nat → Nat → Nat} {S : Nat → Nat} {A : Nat → Nat → Int32} {X : Nat → Int32} {Y : Nat → Nat → Int32} {F : Nat → Int64} {Hd Cs : Nat → Option Nat} {m : List pm_A} {Q : pm_T} {x : Int32} (h10 : S 26 ≤ 10) (h1 : ∀ n, n < 2 ^ S 26 → x = nI n → Q ad (some (.int 1)) (th_cw ad S A X Y F Hd Cs m)) (h0 : ¬ th_is x (2 ^ S 26) → Q ad (some (.int 0)) (th_cw ad S A X Y F Hd Cs m)) : pm_C l G m_X3_hasSet [.ref (ad 4 0), .int x] ad (th_cw ad S A X Y F Hd Cs m) Q := by
  have hp := th_isp (n := 0) h10
  refine pm_met (by decide) (Nat.le_of_ble_eq_true rfl) ?_
  refine pm_iload_n dX3_hasSet_0 rfl rfl ?_
  refine pm_if_lt (tgt := 18) dX3_hasSet_1 (by decide) (fun c_1 => ?_) (fun c_1 => ?_)
  · refine pm_iconst (v := 0) dX3_hasSet_18 (by decide) ?_
    refine pm_zret dX3_hasSet_19 rfl rfl rfl rfl ?_
    exact h0 (fun ⟨n, hn, e⟩ => absurd c_1 (by rw [e]; exact nI_pos (by omega)))
  · obtain ⟨n, hn31, rfl⟩ := nI_of c_1
    refine pm_iload_n dX3_hasSet_4 rfl rfl ?_
    refine pm_iconst (v := 1) dX3_hasSet_5 (by decide) ?_
    refine pm_aload_n dX3_hasSet_6 rfl rfl ?_
    refine pm_get fl_RX3_24_3 dX3_hasSet_7 rfl rfl ?_
    refine pm_ishl dX3_hasSet_10 ?_
    rw [th_sh1 (S 26) (by omega)]
    refine pm_icmp_ge (tgt := 18) dX3_hasSet_11 (by decide) (fun c_11 => ?_) (fun c_11 => ?_)
    · refine pm_iconst (v := 0) dX3_hasSet_18 (by decide) ?_
      refine pm_zret dX3_hasSet_19 rfl rfl rfl rfl ?_
      rw [nI_leI (by omega) hn31] at c_11
      exact h0 (fun ⟨q, hq, e⟩ => absurd ((nI_eq hn31 (by omega)).mp e) (by omega))
    · refine pm_iconst (v := 1) dX3_hasSet_14 (by decide) ?_
      refine pm_goto (tgt := 19) dX3_hasSet_15 (by decide) ?_
      refine pm_zret dX3_hasSet_19 rfl rfl rfl rfl ?_
      rw [nI_leI (by omega) hn31] at c_11
      exact h1 n (by omega) rfl

def th_byA (S : Nat → Nat) (A : Nat → Nat → Int32) (x z : Int32) : Int32 := if ¬ z = -1 ∧ ¬ th_ok z (S 11) then -101 else if th_ok x (2 ^ S 26) then (if z = -1 then th_b01 (th_lb A (S 6) (th_n x) (S 26)).1 else if (th_lb A (S 6) (th_n x) (S 26)).1 = true then (th_lb A (S 6) (th_n x) (S 26)).2.2 (th_n z) else -103) else -102
theorem th_oks {S : Nat → Nat} {x : Int32} (h10 : S 26 ≤ 10) : (0 ≤ x ∧ x ≤ (1 : Int32) <<< (nI (S 26) &&& 31) - 1) ↔ th_ok x (2 ^ S 26) := by rw [th_sh1 (S 26) (by omega)]
theorem th_nm {n : Nat} (h : n < 2 ^ 31) : ¬ nI n = -1 := fun e => absurd (show nI n < 0 by rw [e]; decide) (nI_pos h)
set_option maxHeartbeats 600000 in
set_option maxRecDepth 100000 in
theorem c_X12_by {l : Launch} {G : pm_G} {ad : Nat → Nat → Nat} {a0 a3 a4 a5 a6 a7 : List pm_A} {a1 a2 : Nat → Option pm_A} {S : Nat → Nat} {A : Nat → Nat → Int32} {s : Nat → Int32} {B : Nat → Nat → Int32} {hs : Int64} {Q : pm_T} {x z : Int32} (hI : th_I S A) (hQ : ∀ B2, Q ad (some (.int (th_byA S A x z))) (a0, a1, a2, a3, a4, a5, a6, a7, th_mp ad S A s B2 hs)) : pm_C l G m_X12_by [.ref (ad 8 0), .int x, .int z] ad (a0, a1, a2, a3, a4, a5, a6, a7, th_mp ad S A s B hs) Q := by
  have h8 := hI.2.2.2.2.1.1
  have h10 := hI.2.2.2.2.2.1.1
  have hp := th_isp (n := 0) h10
  refine pm_met (by decide) (Nat.le_of_ble_eq_true rfl) ?_
  refine pm_iload_n dX12_by_0 rfl rfl ?_
  refine pm_iconst (v := (-1)) dX12_by_1 (by decide) ?_
  refine pm_icmp_eq (tgt := 16) dX12_by_2 (by decide) (fun c_2 => ?_) (fun c_2 => ?_)
  · refine pm_iload_n dX12_by_16 rfl rfl ?_
    refine pm_i2l dX12_by_17 ?_
    refine pm_lconst (v := 0) dX12_by_18 (by decide) ?_
    refine pm_iconst (v := 1) dX12_by_19 (by decide) ?_
    refine pm_aload_n dX12_by_20 rfl rfl ?_
    refine pm_get fl_RX12_193_12 dX12_by_21 rfl rfl ?_
    refine pm_ishl dX12_by_24 ?_
    refine pm_iconst (v := 1) dX12_by_25 (by decide) ?_
    refine pm_isub dX12_by_26 ?_
    refine pm_i2l dX12_by_27 ?_
    refine pm_callS (M2 := m_X12_in) (As := [_, _, _]) ok_X12_in kw_1115 kw_1116 dX12_by_28 rfl rfl (Nat.le_of_ble_eq_true rfl) ⟨⟨Nat.le_of_ble_eq_true rfl, Nat.le_of_ble_eq_true rfl⟩, Nat.le_of_ble_eq_true rfl, Nat.le_of_ble_eq_true rfl⟩ ?_
    refine c_X12_in32 (lo := 0) (hi := 1 <<< (nI (S 26) &&& 31) - 1) rfl rfl (fun u v => ?_) (fun u => ?_)
    · obtain ⟨n, hn2, rfl⟩ := (th_is_iff (by omega)).mp ((th_oks h10).mp ⟨u, v⟩)
      refine pm_if_ne (tgt := 37) dX12_by_31 (by decide) (fun c_31 => ?_) (fun c_31 => absurd c_31 (by decide))
      refine pm_aload_n dX12_by_37 rfl rfl ?_
      refine pm_iload_n dX12_by_38 rfl rfl ?_
      refine pm_callV (M2 := m_X12_layBy) (As := [_]) ok_X12_layBy (ci := 12) rfl kw_1224 kw_1226 kw_32 dX12_by_39 rfl rfl rfl (Nat.le_of_ble_eq_true rfl) ⟨⟨Nat.le_of_ble_eq_true rfl, Nat.le_of_ble_eq_true rfl⟩, Nat.le_of_ble_eq_true rfl, Nat.le_of_ble_eq_true rfl⟩ ?_
      refine c_X12_layBy hI (by omega) (fun t ht => ?_)
      cases hok : (th_lb A (S 6) n (S 26)).1
      · refine pm_istore_n (lv2 := [(3, _), (0, _), (1, _), (2, _)]) dX12_by_42 rfl (Nat.le_of_ble_eq_true rfl) rfl ?_
        refine pm_iload_n dX12_by_43 rfl rfl ?_
        refine pm_iconst (v := (-1)) dX12_by_44 (by decide) ?_
        refine pm_icmp_ne (tgt := 58) dX12_by_45 (by decide) (fun c_45 => absurd (c_2) c_45) (fun c_45 => ?_)
        refine pm_iload_n dX12_by_48 rfl rfl ?_
        refine pm_if_eq (tgt := 56) dX12_by_49 (by decide) (fun c_49 => ?_) (fun c_49 => absurd (rfl) c_49)
        refine pm_iconst (v := 0) dX12_by_56 (by decide) ?_
        refine pm_iret dX12_by_57 rfl rfl rfl ?_
        subst c_2
        refine th_r ?_ (hQ (va_up B 17 t))
        rw [th_byA, if_neg (fun z => z.1 rfl), if_pos (th_okt hn2 (by omega)), if_pos rfl, th_n_nI (show n < 2 ^ 31 by omega)]
        rw [hok]
        rfl
      · refine pm_istore_n (lv2 := [(3, _), (0, _), (1, _), (2, _)]) dX12_by_42 rfl (Nat.le_of_ble_eq_true rfl) rfl ?_
        refine pm_iload_n dX12_by_43 rfl rfl ?_
        refine pm_iconst (v := (-1)) dX12_by_44 (by decide) ?_
        refine pm_icmp_ne (tgt := 58) dX12_by_45 (by decide) (fun c_45 => absurd (c_2) c_45) (fun c_45 => ?_)
        refine pm_iload_n dX12_by_48 rfl rfl ?_
        refine pm_if_eq (tgt := 56) dX12_by_49 (by decide) (fun c_49 => absurd c_49 (by decide)) (fun c_49 => ?_)
        refine pm_iconst (v := 1) dX12_by_52 (by decide) ?_
        refine pm_goto (tgt := 57) dX12_by_53 (by decide) ?_
        refine pm_iret dX12_by_57 rfl rfl rfl ?_
        subst c_2
        refine th_r ?_ (hQ (va_up B 17 t))
        rw [th_byA, if_neg (fun z => z.1 rfl), if_pos (th_okt hn2 (by omega)), if_pos rfl, th_n_nI (show n < 2 ^ 31 by omega)]
        rw [hok]
        rfl
    · rw [th_oks h10] at u
      refine pm_if_ne (tgt := 37) dX12_by_31 (by decide) (fun c_31 => absurd (rfl) c_31) (fun c_31 => ?_)
      refine pm_bipush (v := (-102)) dX12_by_34 (by decide) ?_
      refine pm_iret dX12_by_36 rfl rfl rfl ?_
      refine th_r ?_ (hQ B)
      rw [th_byA, if_neg (fun z => z.1 c_2), if_neg u]
  · refine pm_aload_n dX12_by_5 rfl rfl ?_
    refine pm_iload_n dX12_by_6 rfl rfl ?_
    refine pm_callV (M2 := m_X12_isNut) (As := [_]) ok_X12_isNut (ci := 12) rfl kw_1154 kw_1156 kw_24 dX12_by_7 rfl rfl rfl (Nat.le_of_ble_eq_true rfl) ⟨⟨Nat.le_of_ble_eq_true rfl, Nat.le_of_ble_eq_true rfl⟩, Nat.le_of_ble_eq_true rfl, Nat.le_of_ble_eq_true rfl⟩ ?_
    refine c_X12_isNut h8 (fun i hi e => ?_) (fun hn => ?_)
    · subst e
      refine pm_if_ne (tgt := 16) dX12_by_10 (by decide) (fun c_10 => ?_) (fun c_10 => absurd c_10 (by decide))
      refine pm_iload_n dX12_by_16 rfl rfl ?_
      refine pm_i2l dX12_by_17 ?_
      refine pm_lconst (v := 0) dX12_by_18 (by decide) ?_
      refine pm_iconst (v := 1) dX12_by_19 (by decide) ?_
      refine pm_aload_n dX12_by_20 rfl rfl ?_
      refine pm_get fl_RX12_193_12 dX12_by_21 rfl rfl ?_
      refine pm_ishl dX12_by_24 ?_
      refine pm_iconst (v := 1) dX12_by_25 (by decide) ?_
      refine pm_isub dX12_by_26 ?_
      refine pm_i2l dX12_by_27 ?_
      refine pm_callS (M2 := m_X12_in) (As := [_, _, _]) ok_X12_in kw_1115 kw_1116 dX12_by_28 rfl rfl (Nat.le_of_ble_eq_true rfl) ⟨⟨Nat.le_of_ble_eq_true rfl, Nat.le_of_ble_eq_true rfl⟩, Nat.le_of_ble_eq_true rfl, Nat.le_of_ble_eq_true rfl⟩ ?_
      refine c_X12_in32 (lo := 0) (hi := 1 <<< (nI (S 26) &&& 31) - 1) rfl rfl (fun u v => ?_) (fun u => ?_)
      · obtain ⟨n, hn2, rfl⟩ := (th_is_iff (by omega)).mp ((th_oks h10).mp ⟨u, v⟩)
        refine pm_if_ne (tgt := 37) dX12_by_31 (by decide) (fun c_31 => ?_) (fun c_31 => absurd c_31 (by decide))
        refine pm_aload_n dX12_by_37 rfl rfl ?_
        refine pm_iload_n dX12_by_38 rfl rfl ?_
        refine pm_callV (M2 := m_X12_layBy) (As := [_]) ok_X12_layBy (ci := 12) rfl kw_1224 kw_1226 kw_32 dX12_by_39 rfl rfl rfl (Nat.le_of_ble_eq_true rfl) ⟨⟨Nat.le_of_ble_eq_true rfl, Nat.le_of_ble_eq_true rfl⟩, Nat.le_of_ble_eq_true rfl, Nat.le_of_ble_eq_true rfl⟩ ?_
        refine c_X12_layBy hI (by omega) (fun t ht => ?_)
        cases hok : (th_lb A (S 6) n (S 26)).1
        · refine pm_istore_n (lv2 := [(3, _), (0, _), (1, _), (2, _)]) dX12_by_42 rfl (Nat.le_of_ble_eq_true rfl) rfl ?_
          refine pm_iload_n dX12_by_43 rfl rfl ?_
          refine pm_iconst (v := (-1)) dX12_by_44 (by decide) ?_
          refine pm_icmp_ne (tgt := 58) dX12_by_45 (by decide) (fun c_45 => ?_) (fun c_45 => absurd c_45 (c_2))
          refine pm_iload_n dX12_by_58 rfl rfl ?_
          refine pm_if_eq (tgt := 71) dX12_by_59 (by decide) (fun c_59 => ?_) (fun c_59 => absurd (rfl) c_59)
          refine pm_bipush (v := (-103)) dX12_by_71 (by decide) ?_
          refine pm_iret dX12_by_73 rfl rfl rfl ?_
          refine th_r ?_ (hQ (va_up B 17 t))
          rw [th_byA, if_neg (fun z => z.2 (th_okt hi (by omega))), if_pos (th_okt hn2 (by omega)), if_neg (th_nm (by omega)), th_n_nI (show n < 2 ^ 31 by omega), th_n_nI (show i < 2 ^ 31 by omega)]
          rw [hok, if_neg (by decide)]
        · refine pm_istore_n (lv2 := [(3, _), (0, _), (1, _), (2, _)]) dX12_by_42 rfl (Nat.le_of_ble_eq_true rfl) rfl ?_
          refine pm_iload_n dX12_by_43 rfl rfl ?_
          refine pm_iconst (v := (-1)) dX12_by_44 (by decide) ?_
          refine pm_icmp_ne (tgt := 58) dX12_by_45 (by decide) (fun c_45 => ?_) (fun c_45 => absurd c_45 (c_2))
          refine pm_iload_n dX12_by_58 rfl rfl ?_
          refine pm_if_eq (tgt := 71) dX12_by_59 (by decide) (fun c_59 => absurd c_59 (by decide)) (fun c_59 => ?_)
          refine pm_aload_n dX12_by_62 rfl rfl ?_
          refine pm_get fl_RX12_59_12 dX12_by_63 rfl rfl ?_
          refine pm_iload_n dX12_by_66 rfl rfl ?_
          refine pm_iald dX12_by_67 rfl (th_in (by omega) (by decide)) ?_
          refine pm_goto (tgt := 73) dX12_by_68 (by decide) ?_
          refine pm_iret dX12_by_73 rfl rfl rfl ?_
          refine th_r ?_ (hQ (va_up B 17 t))
          rw [th_byA, if_neg (fun z => z.2 (th_okt hi (by omega))), if_pos (th_okt hn2 (by omega)), if_neg (th_nm (by omega)), th_n_nI (show n < 2 ^ 31 by omega), th_n_nI (show i < 2 ^ 31 by omega)]
          rw [hok, if_pos rfl, th_cl (by omega)]
          exact (ht i hi).symm
      · rw [th_oks h10] at u
        refine pm_if_ne (tgt := 37) dX12_by_31 (by decide) (fun c_31 => absurd (rfl) c_31) (fun c_31 => ?_)
        refine pm_bipush (v := (-102)) dX12_by_34 (by decide) ?_
        refine pm_iret dX12_by_36 rfl rfl rfl ?_
        refine th_r ?_ (hQ B)
        rw [th_byA, if_neg (fun z => z.2 (th_okt hi (by omega))), if_neg u]
    · refine pm_if_ne (tgt := 16) dX12_by_10 (by decide) (fun c_10 => absurd (rfl) c_10) (fun c_10 => ?_)
      refine pm_bipush (v := (-101)) dX12_by_13 (by decide) ?_
      refine pm_iret dX12_by_15 rfl rfl rfl ?_
      refine th_r ?_ (hQ B)
      rw [th_byA, if_pos ⟨c_2, th_okf hn (by omega)⟩]

set_option maxHeartbeats 600000 in
set_option maxRecDepth 100000 in
theorem c_X11_by {l : Launch} {G : pm_G} {ad : Nat → Nat → Nat} {S : Nat → Nat} {A : Nat → Nat → Int32} {X : Nat → Int32} {Y : Nat → Nat → Int32} {F : Nat → Int64} {Hd Cs : Nat → Option Nat} {m : List pm_A} {Q : pm_T} {x z : Int32} (hI : th_I S A) (hT : th_T S A Y) (hQ : ∀ t, Q ad (some (.int (th_byA S A x z))) (th_cw ad S A X (va_up Y 4 t) F Hd Cs m)) : pm_C l G m_X11_by [.ref (ad 0 0), .int x, .int z] ad (th_cw ad S A X Y F Hd Cs m) Q := by
  have h8 := hI.2.2.2.2.1.1
  have h10 := hI.2.2.2.2.2.1.1
  have hp := th_isp (n := 0) h10
  refine pm_met (by decide) (Nat.le_of_ble_eq_true rfl) ?_
  refine pm_aload_n dX11_by_0 rfl rfl ?_
  refine pm_iload_n dX11_by_1 rfl rfl ?_
  refine pm_callV (M2 := m_X11_nutOf) (As := [_]) ok_X11_nutOf (ci := 11) rfl kw_545 kw_547 kw_5 dX11_by_2 rfl rfl rfl (Nat.le_of_ble_eq_true rfl) ⟨⟨Nat.le_of_ble_eq_true rfl, Nat.le_of_ble_eq_true rfl⟩, Nat.le_of_ble_eq_true rfl, Nat.le_of_ble_eq_true rfl⟩ ?_
  refine c_X11_nutOf h8 (fun i hi e => ?_) (fun hn => ?_)
  · subst e
    obtain ⟨⟨ki, hki, eki⟩, ⟨si, hsi, esi⟩, -⟩ := th_nk hI hi
    have hwi : pm_get? (th_cw ad S A X Y F Hd Cs m) 2 i = some (.inr (pm_kc (th_n (A 6 i)), th_nf ad A Y i)) := th_nt_get hi
    rw [eki, th_n_nI (by omega)] at hwi
    refine pm_astore_n (lv2 := [(3, _), (0, _), (1, _), (2, _)]) dX11_by_5 rfl (Nat.le_of_ble_eq_true rfl) rfl ?_
    refine pm_aload_n dX11_by_6 rfl rfl ?_
    refine pm_ifnonnull (tgt := 18) dX11_by_7 (by decide) ?_
    refine pm_aload_n dX11_by_18 rfl rfl ?_
    refine pm_get fl_RX11_38_11 dX11_by_19 rfl rfl ?_
    refine pm_iload_n dX11_by_22 rfl rfl ?_
    refine pm_callV (M2 := m_X3_hasSet) (As := [_]) ok_X3_hasSet (ci := 3) rfl kw_670 kw_671 kw_672 dX11_by_23 rfl rfl rfl (Nat.le_of_ble_eq_true rfl) ⟨⟨Nat.le_of_ble_eq_true rfl, Nat.le_of_ble_eq_true rfl⟩, Nat.le_of_ble_eq_true rfl, Nat.le_of_ble_eq_true rfl⟩ ?_
    refine c_X3_hasSet h10 (fun n hn2 e2 => ?_) (fun u => ?_)
    · subst e2
      refine pm_if_ne (tgt := 32) dX11_by_26 (by decide) (fun c_26 => ?_) (fun c_26 => absurd c_26 (by decide))
      refine pm_aload_n dX11_by_32 rfl rfl ?_
      refine pm_get fl_RX11_38_11 dX11_by_33 rfl rfl ?_
      refine pm_iload_n dX11_by_36 rfl rfl ?_
      refine pm_aload_n dX11_by_37 rfl rfl ?_
      refine pm_get fl_RX11_24_11 dX11_by_38 rfl rfl ?_
      refine pm_aload_n dX11_by_41 rfl rfl ?_
      refine pm_get fl_RX11_60_11 dX11_by_42 rfl rfl ?_
      refine pm_callV (M2 := m_X3_follow) (As := [_, _, _]) ok_X3_follow (ci := 3) rfl kw_674 kw_675 kw_676 dX11_by_45 rfl rfl rfl (Nat.le_of_ble_eq_true rfl) ⟨⟨Nat.le_of_ble_eq_true rfl, Nat.le_of_ble_eq_true rfl⟩, Nat.le_of_ble_eq_true rfl, Nat.le_of_ble_eq_true rfl⟩ ?_
      refine c_X3_follow hI hT (by omega) (fun hok t ht => ?_) (fun hok t => ?_)
      · refine pm_istore (lv2 := [(4, _), (3, _), (0, _), (1, _), (2, _)]) dX11_by_48 (Nat.le_of_ble_eq_true rfl) rfl ?_
        refine pm_aload_n dX11_by_50 rfl rfl ?_
        refine pm_ifnonnull (tgt := 65) dX11_by_51 (by decide) ?_
        refine pm_iload dX11_by_65 rfl ?_
        refine pm_if_eq (tgt := 81) dX11_by_67 (by decide) (fun c_67 => absurd c_67 (by decide)) (fun c_67 => ?_)
        refine pm_aload_n dX11_by_70 rfl rfl ?_
        refine pm_get fl_RX11_38_11 dX11_by_71 rfl rfl ?_
        refine pm_aload_n dX11_by_74 rfl rfl ?_
        refine pm_callV (M2 := m_X3_followedCount) (As := [_]) ok_X3_followedCount (ci := 3) rfl kw_683 kw_684 kw_685 dX11_by_75 rfl rfl rfl (Nat.le_of_ble_eq_true rfl) ⟨⟨Nat.le_of_ble_eq_true rfl, Nat.le_of_ble_eq_true rfl⟩, Nat.le_of_ble_eq_true rfl, Nat.le_of_ble_eq_true rfl⟩ ?_
        refine c_X3_followedCount (t := t) (by omega) hwi ?_
        refine pm_goto (tgt := 83) dX11_by_78 (by decide) ?_
        refine pm_iret dX11_by_83 rfl rfl rfl ?_
        refine th_r ?_ (hQ t)
        rw [th_byA, if_neg (fun z => z.2 (th_okt hi (by omega))), if_pos (th_okt hn2 (by omega)), if_neg (th_nm (by omega)), th_n_nI (show n < 2 ^ 31 by omega), th_n_nI (show i < 2 ^ 31 by omega)]
        rw [hok, if_pos rfl]
        exact (ht i hi).symm
      · refine pm_istore (lv2 := [(4, _), (3, _), (0, _), (1, _), (2, _)]) dX11_by_48 (Nat.le_of_ble_eq_true rfl) rfl ?_
        refine pm_aload_n dX11_by_50 rfl rfl ?_
        refine pm_ifnonnull (tgt := 65) dX11_by_51 (by decide) ?_
        refine pm_iload dX11_by_65 rfl ?_
        refine pm_if_eq (tgt := 81) dX11_by_67 (by decide) (fun c_67 => ?_) (fun c_67 => absurd (rfl) c_67)
        refine pm_bipush (v := (-103)) dX11_by_81 (by decide) ?_
        refine pm_iret dX11_by_83 rfl rfl rfl ?_
        refine th_r ?_ (hQ t)
        rw [th_byA, if_neg (fun z => z.2 (th_okt hi (by omega))), if_pos (th_okt hn2 (by omega)), if_neg (th_nm (by omega)), th_n_nI (show n < 2 ^ 31 by omega), th_n_nI (show i < 2 ^ 31 by omega)]
        rw [hok, if_neg (by decide)]
    · refine pm_if_ne (tgt := 32) dX11_by_26 (by decide) (fun c_26 => absurd (rfl) c_26) (fun c_26 => ?_)
      refine pm_bipush (v := (-102)) dX11_by_29 (by decide) ?_
      refine pm_iret dX11_by_31 rfl rfl rfl ?_
      refine th_r ?_ (hQ (Y 4))
      rw [th_byA, if_neg (fun z => z.2 (th_okt hi (by omega))), if_neg (th_okf u (by omega))]
  · refine pm_nstore_n (lv2 := [(3, _), (0, _), (1, _), (2, _)]) dX11_by_5 rfl (Nat.le_of_ble_eq_true rfl) rfl ?_
    refine pm_nload_n dX11_by_6 rfl rfl ?_
    refine pm_ifnonnullN dX11_by_7 ?_
    refine pm_iload_n dX11_by_10 rfl rfl ?_
    refine pm_iconst (v := (-1)) dX11_by_11 (by decide) ?_
    refine pm_icmp_eq (tgt := 18) dX11_by_12 (by decide) (fun c_12 => ?_) (fun c_12 => ?_)
    · refine pm_aload_n dX11_by_18 rfl rfl ?_
      refine pm_get fl_RX11_38_11 dX11_by_19 rfl rfl ?_
      refine pm_iload_n dX11_by_22 rfl rfl ?_
      refine pm_callV (M2 := m_X3_hasSet) (As := [_]) ok_X3_hasSet (ci := 3) rfl kw_670 kw_671 kw_672 dX11_by_23 rfl rfl rfl (Nat.le_of_ble_eq_true rfl) ⟨⟨Nat.le_of_ble_eq_true rfl, Nat.le_of_ble_eq_true rfl⟩, Nat.le_of_ble_eq_true rfl, Nat.le_of_ble_eq_true rfl⟩ ?_
      refine c_X3_hasSet h10 (fun n hn2 e2 => ?_) (fun u => ?_)
      · subst e2
        refine pm_if_ne (tgt := 32) dX11_by_26 (by decide) (fun c_26 => ?_) (fun c_26 => absurd c_26 (by decide))
        refine pm_aload_n dX11_by_32 rfl rfl ?_
        refine pm_get fl_RX11_38_11 dX11_by_33 rfl rfl ?_
        refine pm_iload_n dX11_by_36 rfl rfl ?_
        refine pm_aload_n dX11_by_37 rfl rfl ?_
        refine pm_get fl_RX11_24_11 dX11_by_38 rfl rfl ?_
        refine pm_aload_n dX11_by_41 rfl rfl ?_
        refine pm_get fl_RX11_60_11 dX11_by_42 rfl rfl ?_
        refine pm_callV (M2 := m_X3_follow) (As := [_, _, _]) ok_X3_follow (ci := 3) rfl kw_674 kw_675 kw_676 dX11_by_45 rfl rfl rfl (Nat.le_of_ble_eq_true rfl) ⟨⟨Nat.le_of_ble_eq_true rfl, Nat.le_of_ble_eq_true rfl⟩, Nat.le_of_ble_eq_true rfl, Nat.le_of_ble_eq_true rfl⟩ ?_
        refine c_X3_follow hI hT (by omega) (fun hok t ht => ?_) (fun hok t => ?_)
        · refine pm_istore (lv2 := [(4, _), (3, _), (0, _), (1, _), (2, _)]) dX11_by_48 (Nat.le_of_ble_eq_true rfl) rfl ?_
          refine pm_nload_n dX11_by_50 rfl rfl ?_
          refine pm_ifnonnullN dX11_by_51 ?_
          refine pm_iload dX11_by_54 rfl ?_
          refine pm_if_eq (tgt := 63) dX11_by_56 (by decide) (fun c_56 => absurd c_56 (by decide)) (fun c_56 => ?_)
          refine pm_iconst (v := 1) dX11_by_59 (by decide) ?_
          refine pm_goto (tgt := 64) dX11_by_60 (by decide) ?_
          refine pm_iret dX11_by_64 rfl rfl rfl ?_
          subst c_12
          refine th_r ?_ (hQ t)
          rw [th_byA, if_neg (fun z => z.1 rfl), if_pos (th_okt hn2 (by omega)), if_pos rfl, th_n_nI (show n < 2 ^ 31 by omega)]
          rw [hok]
          rfl
        · refine pm_istore (lv2 := [(4, _), (3, _), (0, _), (1, _), (2, _)]) dX11_by_48 (Nat.le_of_ble_eq_true rfl) rfl ?_
          refine pm_nload_n dX11_by_50 rfl rfl ?_
          refine pm_ifnonnullN dX11_by_51 ?_
          refine pm_iload dX11_by_54 rfl ?_
          refine pm_if_eq (tgt := 63) dX11_by_56 (by decide) (fun c_56 => ?_) (fun c_56 => absurd (rfl) c_56)
          refine pm_iconst (v := 0) dX11_by_63 (by decide) ?_
          refine pm_iret dX11_by_64 rfl rfl rfl ?_
          subst c_12
          refine th_r ?_ (hQ t)
          rw [th_byA, if_neg (fun z => z.1 rfl), if_pos (th_okt hn2 (by omega)), if_pos rfl, th_n_nI (show n < 2 ^ 31 by omega)]
          rw [hok]
          rfl
      · refine pm_if_ne (tgt := 32) dX11_by_26 (by decide) (fun c_26 => absurd (rfl) c_26) (fun c_26 => ?_)
        refine pm_bipush (v := (-102)) dX11_by_29 (by decide) ?_
        refine pm_iret dX11_by_31 rfl rfl rfl ?_
        refine th_r ?_ (hQ (Y 4))
        rw [th_byA, if_neg (fun z => z.1 c_12), if_neg (th_okf u (by omega))]
    · refine pm_bipush (v := (-101)) dX11_by_15 (by decide) ?_
      refine pm_iret dX11_by_17 rfl rfl rfl ?_
      refine th_r ?_ (hQ (Y 4))
      rw [th_byA, if_pos ⟨c_12, th_okf hn (by omega)⟩]

