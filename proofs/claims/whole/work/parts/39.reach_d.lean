def rs_tb2 (S : Nat → Nat) (A : Nat → Nat → Int32) (a z : Nat) (F : Nat → Int64) (s h : Nat) : Prop := ∀ s2 h2, h2 ≤ rs_N z → s2.testBit h2 = false → (s2 < s ∨ (s2 = s ∧ h2 < h)) → rs_tab S A a z F h2 s2
theorem rs_put {S : Nat → Nat} {A : Nat → Nat → Int32} {a z : Nat} {F : Nat → Int64} {s h M : Nat} (hT : rs_tb2 S A a z F s h) (hs : s < 32) (hM : M < 2 ^ 63) (fM : ∀ v, M.testBit v = true ↔ rh_T (rs_N z) (rs_c A a z) (rs_q S A a z) (rs_s (rs_N z) h) s v) : rs_tb2 S A a z (vp_updL F (h * 32 + s) (lN M)) s (h + 1) := by
  intro s2 h2 h1 h3 h4
  by_cases e : s2 = s ∧ h2 = h
  · obtain ⟨rfl, rfl⟩ := e
    exact ⟨M, hM, pk_uLs, fM⟩
  · obtain ⟨M2, m2, e2, f2⟩ := hT s2 h2 h1 h3 (by omega)
    exact ⟨M2, m2, by rw [pk_uLn (by omega)]; exact e2, f2⟩
theorem rs_same {S : Nat → Nat} {A : Nat → Nat → Int32} {a z M : Nat} (fM : ∀ v, M.testBit v = true ↔ rh_T (rs_N z) (rs_c A a z) (rs_q S A a z) (rs_s (rs_N z) (rs_N z)) (2 ^ rs_N z - 1) v) : M = rs_all S A a z := by
  refine Nat.eq_of_testBit_eq (fun v => Bool.eq_iff_iff.mpr ?_)
  rw [fM, rs_at, rs_sN]
theorem rs_2t (c v : Nat) : (2 ^ c).testBit v = true ↔ v = c := by
  rw [Nat.testBit_two_pow, decide_eq_true_iff]
  exact eq_comm
set_option maxHeartbeats 600000 in
set_option maxRecDepth 100000 in
theorem b_X9_ac14 {l : Launch} {G : pm_G} {ad : Nat → Nat → Nat} {S : Nat → Nat} {A : Nat → Nat → Int32} {X : Nat → Int32} {Y : Nat → Nat → Int32} {F : Nat → Int64} {Hd Cs : Nat → Option Nat} {m : List pm_A} {Q : pm_T} {a z : Nat} (hI : th_I S A) (ha : a < S 11) (hz : z < 2 ^ S 11) (hb : rs_N z ≤ 5) (hH : (∀ h, h ≤ rs_N z → Hd h = some (ad 2 (rs_g a z (rs_s (rs_N z) h))))) {s h : Nat} (hs : s < 2 ^ rs_N z) (hh : h ≤ rs_N z + 1) (hT : rs_tb2 S A a z F s h) (K2 : ∀ F2, rs_tb2 S A a z F2 (s + 1) 0 → pm_W l G m_X9_allCounts ad 2 [(2, .int (nI (s + 1))), (0, .ref (ad 5 0)), (1, .int (nI (S 6)))] [] (rs_cz ad S A X Y F2 Hd Cs m (nI (rs_N z))) 0 0 Q) (K : h < rs_N z + 1 → ∀ F2, rs_tb2 S A a z F2 s (h + 1) → pm_W l G m_X9_allCounts ad 14 [(3, .int (nI (h + 1))), (2, .int (nI s)), (0, .ref (ad 5 0)), (1, .int (nI (S 6)))] [] (rs_cz ad S A X Y F2 Hd Cs m (nI (rs_N z))) 0 0 Q) : pm_W l G m_X9_allCounts ad 14 [(3, .int (nI h)), (2, .int (nI s)), (0, .ref (ad 5 0)), (1, .int (nI (S 6)))] [] (rs_cz ad S A X Y F Hd Cs m (nI (rs_N z))) 0 0 Q := by
  have hp5 : 2 ^ rs_N z ≤ 2 ^ 5 := Nat.pow_le_pow_right (by decide) hb
  have hp1 : 1 ≤ 2 ^ rs_N z := Nat.two_pow_pos _
  have h8 := hI.2.2.2.2.1.1
  refine pm_iload_n dX9_allCounts_14 rfl rfl ?_
  refine pm_aload_n dX9_allCounts_15 rfl rfl ?_
  refine pm_get fl_RX9_21_9 dX9_allCounts_16 rfl rfl ?_
  refine pm_icmp_gt (tgt := 70) dX9_allCounts_19 (by decide) (fun c_19 => ?_) (fun c_19 => ?_)
  · refine pm_iinc (lv2 := [(2, _), (3, _), (0, _), (1, _)]) dX9_allCounts_70 rfl (nI_1 s) (Nat.le_of_ble_eq_true rfl) rfl ?_
    refine pm_goto (tgt := 2) dX9_allCounts_73 (by decide) ?_
    refine pm_pick [0, 2, 3] rfl ?_
    have e := (nI_ltI (by omega) (by omega)).mp c_19
    exact K2 F (fun s2 h2 a1 a2 a3 => hT s2 h2 a1 a2 (by omega))
  · have hle : h ≤ rs_N z := Nat.le_of_not_lt (fun q => c_19 ((nI_ltI (by omega) (by omega)).mpr q))
    refine pm_iload_n dX9_allCounts_22 rfl rfl ?_
    refine pm_iload_n dX9_allCounts_23 rfl rfl ?_
    refine pm_ishr dX9_allCounts_24 ?_
    refine pm_iconst (v := 1) dX9_allCounts_25 (by decide) ?_
    refine pm_iand dX9_allCounts_26 ?_
    rw [th_bit (by omega) (by omega)]
    refine pm_if_ne (tgt := 64) dX9_allCounts_27 (by decide) (fun c_27 => ?_) (fun c_27 => ?_)
    · refine pm_iinc (lv2 := [(3, _), (2, _), (0, _), (1, _)]) dX9_allCounts_64 rfl (nI_1 h) (Nat.le_of_ble_eq_true rfl) rfl ?_
      refine pm_goto (tgt := 14) dX9_allCounts_67 (by decide) ?_
      refine pm_pick [0, 1, 2, 3] rfl ?_
      have hbt := rs_b1 c_27
      refine K (by omega) F (fun s2 h2 a1 a2 a3 => ?_)
      by_cases e : s2 = s ∧ h2 = h
      · rw [e.1, e.2, hbt] at a2
        exact absurd a2 (by decide)
      · exact hT s2 h2 a1 a2 (by omega)
    · have hbf := rs_b0 c_27
      have gh := rs_gb (S := S) (a := a) (j := rs_s (rs_N z) h) ha hz (rs_sle hle)
      refine pm_aload_n dX9_allCounts_30 rfl rfl ?_
      refine pm_get fl_RX9_17_9 dX9_allCounts_31 rfl rfl ?_
      refine pm_iload_n dX9_allCounts_34 rfl rfl ?_
      refine pm_bipush (v := 32) dX9_allCounts_35 (by decide) ?_
      refine pm_imul dX9_allCounts_37 ?_
      refine pm_iload_n dX9_allCounts_38 rfl rfl ?_
      refine pm_iadd dX9_allCounts_39 ?_
      rw [show (32 : Int32) = nI 32 from rfl, pk_mul, nI_add]
      refine pm_iload_n dX9_allCounts_40 rfl rfl ?_
      refine pm_if_ne (tgt := 56) dX9_allCounts_41 (by decide) (fun c_41 => ?_) (fun c_41 => ?_)
      · have hne : ¬ s = 0 := fun q => c_41 (by rw [q]; rfl)
        refine pm_aload_n dX9_allCounts_56 rfl rfl ?_
        refine pm_iload_n dX9_allCounts_57 rfl rfl ?_
        refine pm_iload_n dX9_allCounts_58 rfl rfl ?_
        refine pm_iload_n dX9_allCounts_59 rfl rfl ?_
        refine pm_callV (M2 := m_X9_countsOver) (As := [_, _, _]) ok_X9_countsOver (ci := 9) rfl kw_743 kw_745 kw_10 dX9_allCounts_60 rfl rfl rfl (Nat.le_of_ble_eq_true rfl) ⟨⟨Nat.le_of_ble_eq_true rfl, Nat.le_of_ble_eq_true rfl⟩, Nat.le_of_ble_eq_true rfl, Nat.le_of_ble_eq_true rfl⟩ ?_
        refine c_X9_countsOver hI ha hz hb hH hle hs hbf (fun s2 h2 a1 a2 a3 => hT s2 h2 a1 a2 (Or.inl a3)) hne (fun M hM fM => ?_)
        refine pm_last (w2 := (_, _, _, _, _, [_, _, _], _, _, _)) dX9_allCounts_63 rfl (th_in (show h * 32 + s < 192 by omega) (by decide)) rfl ?_
        refine pm_iinc (lv2 := [(3, _), (2, _), (0, _), (1, _)]) dX9_allCounts_64 rfl (nI_1 h) (Nat.le_of_ble_eq_true rfl) rfl ?_
        refine pm_goto (tgt := 14) dX9_allCounts_67 (by decide) ?_
        refine pm_pick [0, 1, 2, 3] rfl ?_
        rw [th_cl (show h * 32 + s < 2 ^ 31 by omega)]
        exact K (by omega) _ (rs_put hT (by omega) hM fM)
      · refine pm_aload_n dX9_allCounts_44 rfl rfl ?_
        refine pm_get fl_RX9_11_9 dX9_allCounts_45 rfl rfl ?_
        refine pm_iload_n dX9_allCounts_48 rfl rfl ?_
        refine pm_aaldN dX9_allCounts_49 rfl (th_in (show h < 6 by omega) (by decide)) ?_
        rw [th_cl (by omega), hH h hle]
        show pm_W _ _ _ _ _ _ (.ref (ad 2 (rs_g a z (rs_s (rs_N z) h))) :: _) _ _ _ _
        refine pm_callS (M2 := m_X9_firstCount) (As := [_]) ok_X9_firstCount kw_739 kw_740 dX9_allCounts_50 rfl rfl (Nat.le_of_ble_eq_true rfl) ⟨⟨Nat.le_of_ble_eq_true rfl, Nat.le_of_ble_eq_true rfl⟩, Nat.le_of_ble_eq_true rfl, Nat.le_of_ble_eq_true rfl⟩ ?_
        refine c_X9_firstCount hI gh ?_
        refine pm_goto (tgt := 63) dX9_allCounts_53 (by decide) ?_
        refine pm_last (w2 := (_, _, _, _, _, [_, _, _], _, _, _)) dX9_allCounts_63 rfl (th_in (show h * 32 + s < 192 by omega) (by decide)) rfl ?_
        refine pm_iinc (lv2 := [(3, _), (2, _), (0, _), (1, _)]) dX9_allCounts_64 rfl (nI_1 h) (Nat.le_of_ble_eq_true rfl) rfl ?_
        refine pm_goto (tgt := 14) dX9_allCounts_67 (by decide) ?_
        refine pm_pick [0, 1, 2, 3] rfl ?_
        rw [th_cl (show h * 32 + s < 2 ^ 31 by omega)]
        have e0 : s = 0 := (nI_eq (b := 0) (by omega) (by decide)).mp c_41
        refine K (by omega) _ (rs_put hT (by omega) (Nat.pow_lt_pow_right (by decide) (Nat.lt_succ_of_le (rs_wle _))) (fun v => ?_))
        subst e0
        rw [rs_2t, rs_T0]
        rfl

set_option maxHeartbeats 600000 in
set_option maxRecDepth 100000 in
theorem c_X9_allCounts {l : Launch} {G : pm_G} {ad : Nat → Nat → Nat} {S : Nat → Nat} {A : Nat → Nat → Int32} {X : Nat → Int32} {Y : Nat → Nat → Int32} {F : Nat → Int64} {Hd Cs : Nat → Option Nat} {m : List pm_A} {Q : pm_T} {a z : Nat} (hI : th_I S A) (ha : a < S 11) (hz : z < 2 ^ S 11) (hb : rs_N z ≤ 5) (hH : (∀ h, h ≤ rs_N z → Hd h = some (ad 2 (rs_g a z (rs_s (rs_N z) h))))) (hQ : ∀ F2, Q ad (some (.long (lN (rs_all S A a z)))) (rs_cz ad S A X Y F2 Hd Cs m (nI (rs_N z)))) : pm_C l G m_X9_allCounts [.ref (ad 5 0), .int (nI (S 6))] ad (rs_cz ad S A X Y F Hd Cs m (nI (rs_N z))) Q := by
  have hp5 : 2 ^ rs_N z ≤ 2 ^ 5 := Nat.pow_le_pow_right (by decide) hb
  have hp1 : 1 ≤ 2 ^ rs_N z := Nat.two_pow_pos _
  have h8 := hI.2.2.2.2.1.1
  refine pm_met (by decide) (Nat.le_of_ble_eq_true rfl) ?_
  refine pm_iconst (v := 0) dX9_allCounts_0 (by decide) ?_
  refine pm_istore_n (lv2 := [(2, _), (0, _), (1, _)]) dX9_allCounts_1 rfl (Nat.le_of_ble_eq_true rfl) rfl ?_
  suffices H : ∀ s, s ≤ 2 ^ rs_N z → ∀ F, rs_tb2 S A a z F s 0 → pm_W l G m_X9_allCounts ad 2 [(2, .int (nI s)), (0, .ref (ad 5 0)), (1, .int (nI (S 6)))] [] (rs_cz ad S A X Y F Hd Cs m (nI (rs_N z))) 0 0 Q from H 0 (Nat.zero_le _) F (fun s2 h2 _ _ q => by omega)
  refine th_loop _ ?_
  intro s hs K F hT
  refine pm_iload_n dX9_allCounts_2 rfl rfl ?_
  refine pm_iconst (v := 1) dX9_allCounts_3 (by decide) ?_
  refine pm_aload_n dX9_allCounts_4 rfl rfl ?_
  refine pm_get fl_RX9_21_9 dX9_allCounts_5 rfl rfl ?_
  refine pm_ishl dX9_allCounts_8 ?_
  rw [th_sh1 (rs_N z) (by omega)]
  refine pm_icmp_ge (tgt := 76) dX9_allCounts_9 (by decide) (fun c_9 => ?_) (fun c_9 => ?_)
  · have e : s = 2 ^ rs_N z := by
      have := (nI_leI (by omega) (by omega)).mp c_9
      omega
    obtain ⟨M, hM, eM, fM⟩ := hT (2 ^ rs_N z - 1) (rs_N z) (Nat.le_refl _) (rs_hi (n := rs_N z) (by omega) (Nat.le_refl _)) (Or.inl (by omega))
    refine pm_aload_n dX9_allCounts_76 rfl rfl ?_
    refine pm_get fl_RX9_17_9 dX9_allCounts_77 rfl rfl ?_
    refine pm_aload_n dX9_allCounts_80 rfl rfl ?_
    refine pm_get fl_RX9_21_9 dX9_allCounts_81 rfl rfl ?_
    refine pm_bipush (v := 32) dX9_allCounts_84 (by decide) ?_
    refine pm_imul dX9_allCounts_86 ?_
    refine pm_iconst (v := 1) dX9_allCounts_87 (by decide) ?_
    refine pm_aload_n dX9_allCounts_88 rfl rfl ?_
    refine pm_get fl_RX9_21_9 dX9_allCounts_89 rfl rfl ?_
    refine pm_ishl dX9_allCounts_92 ?_
    refine pm_iadd dX9_allCounts_93 ?_
    refine pm_iconst (v := 1) dX9_allCounts_94 (by decide) ?_
    refine pm_isub dX9_allCounts_95 ?_
    rw [th_sh1 (rs_N z) (by omega), show (32 : Int32) = nI 32 from rfl, pk_mul, nI_add, show nI (rs_N z * 32 + 2 ^ rs_N z) - 1 = nI (rs_N z * 32 + 2 ^ rs_N z - 1) from pk_sub (b := 1) (by omega), show rs_N z * 32 + 2 ^ rs_N z - 1 = rs_N z * 32 + (2 ^ rs_N z - 1) from by omega]
    refine pm_lald dX9_allCounts_96 rfl (th_in (show rs_N z * 32 + (2 ^ rs_N z - 1) < 192 by omega) (by decide)) ?_
    refine pm_lret dX9_allCounts_97 rfl rfl rfl ?_
    rw [th_cl (show rs_N z * 32 + (2 ^ rs_N z - 1) < 2 ^ 31 by omega), eM, rs_same fM]
    exact hQ F
  · have hlt : s < 2 ^ rs_N z := Nat.lt_of_not_le (fun q => c_9 ((nI_leI (by omega) (by omega)).mpr q))
    refine pm_iconst (v := 0) dX9_allCounts_12 (by decide) ?_
    refine pm_istore_n (lv2 := [(3, _), (2, _), (0, _), (1, _)]) dX9_allCounts_13 rfl (Nat.le_of_ble_eq_true rfl) rfl ?_
    refine pm_pick [0, 1, 2, 3] rfl ?_
    suffices H : ∀ h, h ≤ rs_N z + 1 → ∀ F, rs_tb2 S A a z F s h → pm_W l G m_X9_allCounts ad 14 [(3, .int (nI h)), (2, .int (nI s)), (0, .ref (ad 5 0)), (1, .int (nI (S 6)))] [] (rs_cz ad S A X Y F Hd Cs m (nI (rs_N z))) 0 0 Q from H 0 (Nat.zero_le _) F hT
    refine th_loop _ ?_
    intro h hh K2 F hT
    exact b_X9_ac14 hI ha hz hb hH hlt hh hT (K hlt) K2

set_option maxHeartbeats 600000 in
set_option maxRecDepth 100000 in
theorem c_X11_reach {l : Launch} {G : pm_G} {ad : Nat → Nat → Nat} {S : Nat → Nat} {A : Nat → Nat → Int32} {X : Nat → Int32} {Y : Nat → Nat → Int32} {F : Nat → Int64} {Hd Cs : Nat → Option Nat} {m : List pm_A} {Q : pm_T} {x y : Int32} (hI : th_I S A) (hQ : ∀ X2 F2 Hd2, Q ad (some (.long (rs_A S A x y))) (th_cw ad S A X2 Y F2 Hd2 Cs m)) : pm_C l G m_X11_reach [.ref (ad 0 0), .int x, .int y] ad (th_cw ad S A X Y F Hd Cs m) Q := by
  have h8 := hI.2.2.2.2.1.1
  have hp2 := th_isp (n := 0) (show S 11 ≤ 10 by omega)
  refine pm_met (by decide) (Nat.le_of_ble_eq_true rfl) ?_
  refine pm_aload_n dX11_reach_0 rfl rfl ?_
  refine pm_iload_n dX11_reach_1 rfl rfl ?_
  refine pm_callV (M2 := m_X11_nutOf) (As := [_]) ok_X11_nutOf (ci := 11) rfl kw_545 kw_547 kw_5 dX11_reach_2 rfl rfl rfl (Nat.le_of_ble_eq_true rfl) ⟨⟨Nat.le_of_ble_eq_true rfl, Nat.le_of_ble_eq_true rfl⟩, Nat.le_of_ble_eq_true rfl, Nat.le_of_ble_eq_true rfl⟩ ?_
  refine c_X11_nutOf h8 (fun a ha e => ?_) (fun hn => ?_)
  · subst e
    refine pm_astore_n (lv2 := [(3, _), (0, _), (1, _), (2, _)]) dX11_reach_5 rfl (Nat.le_of_ble_eq_true rfl) rfl ?_
    refine pm_aload_n dX11_reach_6 rfl rfl ?_
    refine pm_ifnonnull (tgt := 14) dX11_reach_7 (by decide) ?_
    refine pm_iload_n dX11_reach_14 rfl rfl ?_
    refine pm_if_lt (tgt := 43) dX11_reach_15 (by decide) (fun c_15 => ?_) (fun c_15 => ?_)
    · refine pm_iconst (v := 0) dX11_reach_43 (by decide) ?_
      refine pm_istore (lv2 := [(4, _), (3, _), (0, _), (1, _), (2, _)]) dX11_reach_44 (Nat.le_of_ble_eq_true rfl) rfl ?_
      refine pm_iload dX11_reach_46 rfl ?_
      refine pm_if_eq (tgt := 59) dX11_reach_48 (by decide) (fun c_48 => ?_) (fun c_48 => absurd (rfl) c_48)
      refine pm_ldc2 kw_730 dX11_reach_59 ?_
      refine pm_lret dX11_reach_62 rfl rfl rfl ?_
      refine th_rl ?_ (hQ X F Hd)
      rw [rs_A, if_pos (th_okt ha (by omega)), if_neg (fun h => absurd c_15 (Int32.not_lt.mpr h.1.1))]
    · obtain ⟨z, hz31, rfl⟩ := nI_of c_15
      refine pm_iload_n dX11_reach_18 rfl rfl ?_
      refine pm_iconst (v := 1) dX11_reach_19 (by decide) ?_
      refine pm_aload_n dX11_reach_20 rfl rfl ?_
      refine pm_get fl_RX11_103_11 dX11_reach_21 rfl rfl ?_
      refine pm_ishl dX11_reach_24 ?_
      rw [th_sh1 (S 11) (by omega)]
      refine pm_icmp_ge (tgt := 43) dX11_reach_25 (by decide) (fun c_25 => ?_) (fun c_25 => ?_)
      · refine pm_iconst (v := 0) dX11_reach_43 (by decide) ?_
        refine pm_istore (lv2 := [(4, _), (3, _), (0, _), (1, _), (2, _)]) dX11_reach_44 (Nat.le_of_ble_eq_true rfl) rfl ?_
        refine pm_iload dX11_reach_46 rfl ?_
        refine pm_if_eq (tgt := 59) dX11_reach_48 (by decide) (fun c_48 => ?_) (fun c_48 => absurd (rfl) c_48)
        refine pm_ldc2 kw_730 dX11_reach_59 ?_
        refine pm_lret dX11_reach_62 rfl rfl rfl ?_
        rw [nI_leI (by omega) hz31] at c_25
        refine th_rl ?_ (hQ X F Hd)
        rw [rs_A, if_pos (th_okt ha (by omega)), if_neg (fun h => by obtain ⟨q, hq, e⟩ := (th_is_iff (by omega)).mp h.1; have := (nI_eq hz31 (by omega)).mp e; omega)]
      · have hz : z < 2 ^ S 11 := Nat.lt_of_not_le (fun q => c_25 ((nI_leI (by omega) hz31).mpr q))
        have okz : th_ok (nI z) (2 ^ S 11) := th_okt hz (by omega)
        obtain ⟨hNn, hbN⟩ := rs_Nn hz h8
        have hblz := th_bits_le z 10
        refine pm_iload_n dX11_reach_28 rfl rfl ?_
        refine pm_aload_n dX11_reach_29 rfl rfl ?_
        refine pm_get (fn_RX11_114 _) dX11_reach_30 (show pm_get? _ 2 a = _ from th_nt_get ha) rfl ?_
        refine pm_ishr dX11_reach_33 ?_
        refine pm_iconst (v := 1) dX11_reach_34 (by decide) ?_
        refine pm_iand dX11_reach_35 ?_
        rw [th_bit (by omega) (by omega)]
        refine pm_if_ne (tgt := 43) dX11_reach_36 (by decide) (fun c_36 => ?_) (fun c_36 => ?_)
        · refine pm_iconst (v := 0) dX11_reach_43 (by decide) ?_
          refine pm_istore (lv2 := [(4, _), (3, _), (0, _), (1, _), (2, _)]) dX11_reach_44 (Nat.le_of_ble_eq_true rfl) rfl ?_
          refine pm_iload dX11_reach_46 rfl ?_
          refine pm_if_eq (tgt := 59) dX11_reach_48 (by decide) (fun c_48 => ?_) (fun c_48 => absurd (rfl) c_48)
          refine pm_ldc2 kw_730 dX11_reach_59 ?_
          refine pm_lret dX11_reach_62 rfl rfl rfl ?_
          refine th_rl ?_ (hQ X F Hd)
          rw [rs_A, if_pos (th_okt ha (by omega)), if_neg (fun h => by have h2 := h.2.1; rw [th_n_nI (by omega), th_n_nI (by omega), rs_b1 c_36] at h2; exact absurd h2 (by decide))]
        · refine pm_iconst (v := 1) dX11_reach_39 (by decide) ?_
          refine pm_goto (tgt := 44) dX11_reach_40 (by decide) ?_
          refine pm_istore (lv2 := [(4, _), (3, _), (0, _), (1, _), (2, _)]) dX11_reach_44 (Nat.le_of_ble_eq_true rfl) rfl ?_
          refine pm_iload dX11_reach_46 rfl ?_
          refine pm_if_eq (tgt := 59) dX11_reach_48 (by decide) (fun c_48 => absurd c_48 (by decide)) (fun c_48 => ?_)
          refine pm_iload_n dX11_reach_51 rfl rfl ?_
          refine pm_callS (M2 := m_J6_bitCount_0f7a4) (As := [_]) ok_J6_bitCount_0f7a4 kw_729 kw_701 dX11_reach_52 rfl rfl (Nat.le_of_ble_eq_true rfl) ⟨⟨Nat.le_of_ble_eq_true rfl, Nat.le_of_ble_eq_true rfl⟩, Nat.le_of_ble_eq_true rfl, Nat.le_of_ble_eq_true rfl⟩ ?_
          refine c_bitCount (by omega) ?_
          refine pm_iconst (v := 5) dX11_reach_55 (by decide) ?_
          refine pm_icmp_le (tgt := 63) dX11_reach_56 (by decide) (fun c_56 => ?_) (fun c_56 => ?_)
          · have hb : rs_N z ≤ 5 := by
              have h2 := (nI_leI (b := 5) (by omega) (by decide)).mp c_56
              omega
            have hok : rs_ok S (th_n (nI a)) (nI z) := ⟨okz, by rw [th_n_nI (by omega), th_n_nI (by omega)]; exact rs_b0 c_36, by rw [th_n_nI (by omega)]; omega⟩
            refine pm_aload_n dX11_reach_63 rfl rfl ?_
            refine pm_get fl_RX11_45_11 dX11_reach_64 rfl rfl ?_
            refine pm_aload_n dX11_reach_67 rfl rfl ?_
            refine pm_get fl_RX11_24_11 dX11_reach_68 rfl rfl ?_
            refine pm_iload_n dX11_reach_71 rfl rfl ?_
            refine pm_aload_n dX11_reach_72 rfl rfl ?_
            refine pm_callV (M2 := m_X9_gather) (As := [_, _, _]) ok_X9_gather (ci := 9) rfl kw_731 kw_732 kw_733 dX11_reach_73 rfl rfl rfl (Nat.le_of_ble_eq_true rfl) ⟨⟨Nat.le_of_ble_eq_true rfl, Nat.le_of_ble_eq_true rfl⟩, Nat.le_of_ble_eq_true rfl, Nat.le_of_ble_eq_true rfl⟩ ?_
            refine c_X9_gather h8 ha hz hb (fun Hd2 hH => ?_)
            refine pm_aload_n dX11_reach_76 rfl rfl ?_
            refine pm_get fl_RX11_45_11 dX11_reach_77 rfl rfl ?_
            refine pm_aload_n dX11_reach_80 rfl rfl ?_
            refine pm_get fl_RX11_60_11 dX11_reach_81 rfl rfl ?_
            refine pm_callV (M2 := m_X9_allCounts) (As := [_]) ok_X9_allCounts (ci := 9) rfl kw_735 kw_736 kw_737 dX11_reach_84 rfl rfl rfl (Nat.le_of_ble_eq_true rfl) ⟨⟨Nat.le_of_ble_eq_true rfl, Nat.le_of_ble_eq_true rfl⟩, Nat.le_of_ble_eq_true rfl, Nat.le_of_ble_eq_true rfl⟩ ?_
            refine c_X9_allCounts hI ha hz hb hH (fun F2 => ?_)
            refine pm_lret dX11_reach_87 rfl rfl rfl ?_
            refine th_rl ?_ (hQ (upd X 5 (nI (rs_N z))) F2 Hd2)
            rw [rs_A, if_pos (th_okt ha (by omega)), if_pos hok, th_n_nI (by omega), th_n_nI (by omega)]
          · refine pm_ldc2 kw_730 dX11_reach_59 ?_
            refine pm_lret dX11_reach_62 rfl rfl rfl ?_
            refine th_rl ?_ (hQ X F Hd)
            rw [rs_A, if_pos (th_okt ha (by omega)), if_neg (fun h => c_56 (by have h2 := h.2.2; rw [th_n_nI (by omega)] at h2; exact (nI_leI (b := 5) (by omega) (by decide)).mpr h2))]
  · refine pm_nstore_n (lv2 := [(3, _), (0, _), (1, _), (2, _)]) dX11_reach_5 rfl (Nat.le_of_ble_eq_true rfl) rfl ?_
    refine pm_nload_n dX11_reach_6 rfl rfl ?_
    refine pm_ifnonnullN dX11_reach_7 ?_
    refine pm_ldc2 kw_728 dX11_reach_10 ?_
    refine pm_lret dX11_reach_13 rfl rfl rfl ?_
    refine th_rl ?_ (hQ X F Hd)
    rw [rs_A, if_neg (th_okf hn (by omega))]

