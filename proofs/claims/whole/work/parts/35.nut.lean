theorem fFn_0 (k : Nat) : ∀ q : vw_C, vwCl[pm_kc k]? = some q → (q.2.1 0).2.2.2 = true ∧ (q.2.1 0).1 = "ThirtyNine$Nut" ∧ parseFieldDescriptor (q.2.1 0).2.2.1 = some (.object "ThirtyNine$School") := match k with
  | 0 => fF_4_0
  | 1 => fF_5_0
  | 2 => fF_0_0
  | 3 => fF_8_0
  | n + 4 => fF_7_0
theorem fFn_1 (k : Nat) : ∀ q : vw_C, vwCl[pm_kc k]? = some q → (q.2.1 1).2.2.2 = true ∧ (q.2.1 1).1 = "ThirtyNine$Nut" ∧ parseFieldDescriptor (q.2.1 1).2.2.1 = some .int := match k with
  | 0 => fF_4_1
  | 1 => fF_5_1
  | 2 => fF_0_1
  | 3 => fF_8_1
  | n + 4 => fF_7_1
set_option maxHeartbeats 600000 in
set_option maxRecDepth 100000 in
theorem c_X4_init {l : Launch} {G : pm_G} {ad : Nat → Nat → Nat} {a0 a3 a4 a5 a6 a7 a8 : List pm_A} {a1 a2 : Nat → Option pm_A} {Q : pm_T} {kd n r : Nat} {h : Int32} (hw : a2 n = some (.inr (pm_kc kd, [.null, .int 0, .int 0, .int 0, .int 0, .int 0, .int 0, .int 0, .int 0, .int 0, .int 0, .int 0, .int 0]))) (hQ : Q ad none (a0, a1, (va_up a2 n (some (.inr (pm_kc kd, [.ref r, .int h, .int 0, .int 0, .int 0, .int 0, .int 0, .int 0, .int (-1), .int 0, .int 0, .int 0, .int 0])))), a3, a4, a5, a6, a7, a8)) : pm_C l G m_X4_init [.ref (ad 2 n), .ref r, .int h] ad (a0, a1, a2, a3, a4, a5, a6, a7, a8) Q := by
  refine pm_met (by decide) (Nat.le_of_ble_eq_true rfl) ?_
  refine pm_aload_n dX4_init_0 rfl rfl ?_
  refine pm_objInit kw_393 kw_68 kw_69 (Nat.le_of_ble_eq_true rfl) (Nat.le_of_ble_eq_true rfl) dX4_init_1 ?_
  refine pm_aload_n dX4_init_4 rfl rfl ?_
  refine pm_iconst (v := (-1)) dX4_init_5 (by decide) ?_
  refine pm_put (w2 := (_, _, _, _, _, _, _, _, _)) (fn_RX4_9 _) (fpn_8 _) dX4_init_6 (show pm_get? _ 2 n = _ from hw) rfl rfl (Nat.le_of_ble_eq_true rfl) rfl ?_
  refine pm_aload_n dX4_init_9 rfl rfl ?_
  refine pm_aload_n dX4_init_10 rfl rfl ?_
  refine pm_putF (w2 := (_, _, _, _, _, _, _, _, _)) (fn_RX4_15 _) (fFn_0 _) rfl dX4_init_11 (show pm_get? _ 2 n = _ from if_pos rfl) rfl rfl (Nat.le_of_ble_eq_true rfl) rfl ?_
  refine pm_aload_n dX4_init_14 rfl rfl ?_
  refine pm_iload_n dX4_init_15 rfl rfl ?_
  refine pm_putF (w2 := (_, _, _, _, _, _, _, _, _)) (fn_RX4_19 _) (fFn_1 _) rfl dX4_init_16 (show pm_get? _ 2 n = _ from if_pos rfl) rfl rfl (Nat.le_of_ble_eq_true rfl) rfl ?_
  refine pm_vret dX4_init_19 rfl rfl rfl ?_
  refine th_q2 ?_ hQ
  rw [th_vu2, th_vu2]
  rfl

set_option maxHeartbeats 600000 in
set_option maxRecDepth 100000 in
theorem c_X0_init {l : Launch} {G : pm_G} {ad : Nat → Nat → Nat} {a0 a3 a4 a5 a6 a7 a8 : List pm_A} {a1 a2 : Nat → Option pm_A} {Q : pm_T} {kd n r : Nat} {h : Int32} (hw : a2 n = some (.inr (pm_kc kd, [.null, .int 0, .int 0, .int 0, .int 0, .int 0, .int 0, .int 0, .int 0, .int 0, .int 0, .int 0, .int 0]))) (hQ : Q ad none (a0, a1, (va_up a2 n (some (.inr (pm_kc kd, [.ref r, .int h, .int 0, .int 0, .int 0, .int 0, .int 0, .int 0, .int (-1), .int 0, .int 0, .int 0, .int 0])))), a3, a4, a5, a6, a7, a8)) : pm_C l G m_X0_init [.ref (ad 2 n), .ref r, .int h] ad (a0, a1, a2, a3, a4, a5, a6, a7, a8) Q := by
  refine pm_met (by decide) (Nat.le_of_ble_eq_true rfl) ?_
  refine pm_aload_n dX0_init_0 rfl rfl ?_
  refine pm_aload_n dX0_init_1 rfl rfl ?_
  refine pm_iload_n dX0_init_2 rfl rfl ?_
  refine pm_callI (M2 := m_X4_init) (As := [_, _]) ok_X4_init rfl rfl kw_461 kw_391 dX0_init_3 rfl rfl (Nat.le_of_ble_eq_true rfl) ⟨⟨Nat.le_of_ble_eq_true rfl, Nat.le_of_ble_eq_true rfl⟩, Nat.le_of_ble_eq_true rfl, Nat.le_of_ble_eq_true rfl⟩ ?_
  refine c_X4_init hw ?_
  refine pm_vret dX0_init_6 rfl rfl rfl ?_
  exact hQ

set_option maxHeartbeats 600000 in
set_option maxRecDepth 100000 in
theorem c_X5_init {l : Launch} {G : pm_G} {ad : Nat → Nat → Nat} {a0 a3 a4 a5 a6 a7 a8 : List pm_A} {a1 a2 : Nat → Option pm_A} {Q : pm_T} {kd n r : Nat} {h : Int32} (hw : a2 n = some (.inr (pm_kc kd, [.null, .int 0, .int 0, .int 0, .int 0, .int 0, .int 0, .int 0, .int 0, .int 0, .int 0, .int 0, .int 0]))) (hQ : Q ad none (a0, a1, (va_up a2 n (some (.inr (pm_kc kd, [.ref r, .int h, .int 0, .int 0, .int 0, .int 0, .int 0, .int 0, .int (-1), .int 0, .int 0, .int 0, .int 0])))), a3, a4, a5, a6, a7, a8)) : pm_C l G m_X5_init [.ref (ad 2 n), .ref r, .int h] ad (a0, a1, a2, a3, a4, a5, a6, a7, a8) Q := by
  refine pm_met (by decide) (Nat.le_of_ble_eq_true rfl) ?_
  refine pm_aload_n dX5_init_0 rfl rfl ?_
  refine pm_aload_n dX5_init_1 rfl rfl ?_
  refine pm_iload_n dX5_init_2 rfl rfl ?_
  refine pm_callI (M2 := m_X4_init) (As := [_, _]) ok_X4_init rfl rfl kw_390 kw_391 dX5_init_3 rfl rfl (Nat.le_of_ble_eq_true rfl) ⟨⟨Nat.le_of_ble_eq_true rfl, Nat.le_of_ble_eq_true rfl⟩, Nat.le_of_ble_eq_true rfl, Nat.le_of_ble_eq_true rfl⟩ ?_
  refine c_X4_init hw ?_
  refine pm_vret dX5_init_6 rfl rfl rfl ?_
  exact hQ

set_option maxHeartbeats 600000 in
set_option maxRecDepth 100000 in
theorem c_X7_init {l : Launch} {G : pm_G} {ad : Nat → Nat → Nat} {a0 a3 a4 a5 a6 a7 a8 : List pm_A} {a1 a2 : Nat → Option pm_A} {Q : pm_T} {kd n r : Nat} {h : Int32} (hw : a2 n = some (.inr (pm_kc kd, [.null, .int 0, .int 0, .int 0, .int 0, .int 0, .int 0, .int 0, .int 0, .int 0, .int 0, .int 0, .int 0]))) (hQ : Q ad none (a0, a1, (va_up a2 n (some (.inr (pm_kc kd, [.ref r, .int h, .int 0, .int 0, .int 0, .int 0, .int 0, .int 0, .int (-1), .int 0, .int 0, .int 0, .int 0])))), a3, a4, a5, a6, a7, a8)) : pm_C l G m_X7_init [.ref (ad 2 n), .ref r, .int h] ad (a0, a1, a2, a3, a4, a5, a6, a7, a8) Q := by
  refine pm_met (by decide) (Nat.le_of_ble_eq_true rfl) ?_
  refine pm_aload_n dX7_init_0 rfl rfl ?_
  refine pm_aload_n dX7_init_1 rfl rfl ?_
  refine pm_iload_n dX7_init_2 rfl rfl ?_
  refine pm_callI (M2 := m_X4_init) (As := [_, _]) ok_X4_init rfl rfl kw_501 kw_391 dX7_init_3 rfl rfl (Nat.le_of_ble_eq_true rfl) ⟨⟨Nat.le_of_ble_eq_true rfl, Nat.le_of_ble_eq_true rfl⟩, Nat.le_of_ble_eq_true rfl, Nat.le_of_ble_eq_true rfl⟩ ?_
  refine c_X4_init hw ?_
  refine pm_vret dX7_init_6 rfl rfl rfl ?_
  exact hQ

set_option maxHeartbeats 600000 in
set_option maxRecDepth 100000 in
theorem c_X8_init {l : Launch} {G : pm_G} {ad : Nat → Nat → Nat} {a0 a3 a4 a5 a6 a7 a8 : List pm_A} {a1 a2 : Nat → Option pm_A} {Q : pm_T} {kd n r : Nat} {h : Int32} (hw : a2 n = some (.inr (pm_kc kd, [.null, .int 0, .int 0, .int 0, .int 0, .int 0, .int 0, .int 0, .int 0, .int 0, .int 0, .int 0, .int 0]))) (hQ : Q ad none (a0, a1, (va_up a2 n (some (.inr (pm_kc kd, [.ref r, .int h, .int 0, .int 0, .int 0, .int 0, .int 0, .int 0, .int (-1), .int 0, .int 0, .int 0, .int 0])))), a3, a4, a5, a6, a7, a8)) : pm_C l G m_X8_init [.ref (ad 2 n), .ref r, .int h] ad (a0, a1, a2, a3, a4, a5, a6, a7, a8) Q := by
  refine pm_met (by decide) (Nat.le_of_ble_eq_true rfl) ?_
  refine pm_aload_n dX8_init_0 rfl rfl ?_
  refine pm_aload_n dX8_init_1 rfl rfl ?_
  refine pm_iload_n dX8_init_2 rfl rfl ?_
  refine pm_callI (M2 := m_X0_init) (As := [_, _]) ok_X0_init rfl rfl kw_481 kw_459 dX8_init_3 rfl rfl (Nat.le_of_ble_eq_true rfl) ⟨⟨Nat.le_of_ble_eq_true rfl, Nat.le_of_ble_eq_true rfl⟩, Nat.le_of_ble_eq_true rfl, Nat.le_of_ble_eq_true rfl⟩ ?_
  refine c_X0_init hw ?_
  refine pm_vret dX8_init_6 rfl rfl rfl ?_
  exact hQ

set_option maxHeartbeats 600000 in
set_option maxRecDepth 100000 in
theorem g_nn0 {l : Launch} {G : pm_G} {ad : Nat → Nat → Nat} {a0 a3 a4 a5 a6 a7 a8 : List pm_A} {a1 a2 : Nat → Option pm_A} {Q : pm_T} {n r : Nat} {h : Int32} (hn : n < 64) (h0 : a2 n = none) (hQ : ∀ b, (∀ g k, ¬ (g = 2 ∧ k = n) → b g k = ad g k) → Q b (some (.ref (b 2 n))) (a0, a1, (va_up a2 n (some (.inr (pm_kc 0, [.ref r, .int h, .int 0, .int 0, .int 0, .int 0, .int 0, .int 0, .int (-1), .int 0, .int 0, .int 0, .int 0])))), a3, a4, a5, a6, a7, a8)) : pm_C l G m_X11_newNut [.int (nI 0), .ref r, .int h] ad (a0, a1, a2, a3, a4, a5, a6, a7, a8) Q := by
  refine pm_met (by decide) (Nat.le_of_ble_eq_true rfl) ?_
  refine pm_iload_n dX11_newNut_0 rfl rfl ?_
  refine pm_tableOut (tgt := 72) dX11_newNut_1 (by decide) (by decide) ?_
  refine pm_new2 (g := 2) (k := n) nw_RX11_22 dX11_newNut_72 (by decide) (hn) (h0) pm_app2 (Nat.le_of_ble_eq_true rfl) (Nat.le_of_ble_eq_true rfl) (fun b1 h1 => ?_)
  refine pm_dup dX11_newNut_75 rfl ?_
  refine pm_aload_n dX11_newNut_76 rfl rfl ?_
  refine pm_iload_n dX11_newNut_77 rfl rfl ?_
  refine pm_callI (M2 := m_X4_init) (As := [_, _]) ok_X4_init rfl rfl kw_517 kw_391 dX11_newNut_78 rfl rfl (Nat.le_of_ble_eq_true rfl) ⟨⟨Nat.le_of_ble_eq_true rfl, Nat.le_of_ble_eq_true rfl⟩, Nat.le_of_ble_eq_true rfl, Nat.le_of_ble_eq_true rfl⟩ ?_
  refine c_X4_init (kd := 0) (if_pos rfl) ?_
  refine pm_aret dX11_newNut_81 rfl (Or.inr ⟨_, rfl⟩) rfl rfl ?_
  rw [th_vu2]
  exact hQ b1 h1

set_option maxHeartbeats 600000 in
set_option maxRecDepth 100000 in
theorem g_nn1 {l : Launch} {G : pm_G} {ad : Nat → Nat → Nat} {a0 a3 a4 a5 a6 a7 a8 : List pm_A} {a1 a2 : Nat → Option pm_A} {Q : pm_T} {n r : Nat} {h : Int32} (hn : n < 64) (h0 : a2 n = none) (hQ : ∀ b, (∀ g k, ¬ (g = 2 ∧ k = n) → b g k = ad g k) → Q b (some (.ref (b 2 n))) (a0, a1, (va_up a2 n (some (.inr (pm_kc 1, [.ref r, .int h, .int 0, .int 0, .int 0, .int 0, .int 0, .int 0, .int (-1), .int 0, .int 0, .int 0, .int 0])))), a3, a4, a5, a6, a7, a8)) : pm_C l G m_X11_newNut [.int (nI 1), .ref r, .int h] ad (a0, a1, a2, a3, a4, a5, a6, a7, a8) Q := by
  refine pm_met (by decide) (Nat.le_of_ble_eq_true rfl) ?_
  refine pm_iload_n dX11_newNut_0 rfl rfl ?_
  refine pm_tableIn (off := 31) (tgt := 32) dX11_newNut_1 (by decide) (by decide) (by decide) (by decide) ?_
  refine pm_new2 (g := 2) (k := n) nw_RX11_293 dX11_newNut_32 (by decide) (hn) (h0) pm_app2 (Nat.le_of_ble_eq_true rfl) (Nat.le_of_ble_eq_true rfl) (fun b1 h1 => ?_)
  refine pm_dup dX11_newNut_35 rfl ?_
  refine pm_aload_n dX11_newNut_36 rfl rfl ?_
  refine pm_iload_n dX11_newNut_37 rfl rfl ?_
  refine pm_callI (M2 := m_X5_init) (As := [_, _]) ok_X5_init rfl rfl kw_387 kw_388 dX11_newNut_38 rfl rfl (Nat.le_of_ble_eq_true rfl) ⟨⟨Nat.le_of_ble_eq_true rfl, Nat.le_of_ble_eq_true rfl⟩, Nat.le_of_ble_eq_true rfl, Nat.le_of_ble_eq_true rfl⟩ ?_
  refine c_X5_init (kd := 1) (if_pos rfl) ?_
  refine pm_aret dX11_newNut_41 rfl (Or.inr ⟨_, rfl⟩) rfl rfl ?_
  rw [th_vu2]
  exact hQ b1 h1

set_option maxHeartbeats 600000 in
set_option maxRecDepth 100000 in
theorem g_nn2 {l : Launch} {G : pm_G} {ad : Nat → Nat → Nat} {a0 a3 a4 a5 a6 a7 a8 : List pm_A} {a1 a2 : Nat → Option pm_A} {Q : pm_T} {n r : Nat} {h : Int32} (hn : n < 64) (h0 : a2 n = none) (hQ : ∀ b, (∀ g k, ¬ (g = 2 ∧ k = n) → b g k = ad g k) → Q b (some (.ref (b 2 n))) (a0, a1, (va_up a2 n (some (.inr (pm_kc 2, [.ref r, .int h, .int 0, .int 0, .int 0, .int 0, .int 0, .int 0, .int (-1), .int 0, .int 0, .int 0, .int 0])))), a3, a4, a5, a6, a7, a8)) : pm_C l G m_X11_newNut [.int (nI 2), .ref r, .int h] ad (a0, a1, a2, a3, a4, a5, a6, a7, a8) Q := by
  refine pm_met (by decide) (Nat.le_of_ble_eq_true rfl) ?_
  refine pm_iload_n dX11_newNut_0 rfl rfl ?_
  refine pm_tableIn (off := 41) (tgt := 42) dX11_newNut_1 (by decide) (by decide) (by decide) (by decide) ?_
  refine pm_new2 (g := 2) (k := n) nw_RX11_298 dX11_newNut_42 (by decide) (hn) (h0) pm_app2 (Nat.le_of_ble_eq_true rfl) (Nat.le_of_ble_eq_true rfl) (fun b1 h1 => ?_)
  refine pm_dup dX11_newNut_45 rfl ?_
  refine pm_aload_n dX11_newNut_46 rfl rfl ?_
  refine pm_iload_n dX11_newNut_47 rfl rfl ?_
  refine pm_callI (M2 := m_X0_init) (As := [_, _]) ok_X0_init rfl rfl kw_458 kw_459 dX11_newNut_48 rfl rfl (Nat.le_of_ble_eq_true rfl) ⟨⟨Nat.le_of_ble_eq_true rfl, Nat.le_of_ble_eq_true rfl⟩, Nat.le_of_ble_eq_true rfl, Nat.le_of_ble_eq_true rfl⟩ ?_
  refine c_X0_init (kd := 2) (if_pos rfl) ?_
  refine pm_aret dX11_newNut_51 rfl (Or.inr ⟨_, rfl⟩) rfl rfl ?_
  rw [th_vu2]
  exact hQ b1 h1

set_option maxHeartbeats 600000 in
set_option maxRecDepth 100000 in
theorem g_nn3 {l : Launch} {G : pm_G} {ad : Nat → Nat → Nat} {a0 a3 a4 a5 a6 a7 a8 : List pm_A} {a1 a2 : Nat → Option pm_A} {Q : pm_T} {n r : Nat} {h : Int32} (hn : n < 64) (h0 : a2 n = none) (hQ : ∀ b, (∀ g k, ¬ (g = 2 ∧ k = n) → b g k = ad g k) → Q b (some (.ref (b 2 n))) (a0, a1, (va_up a2 n (some (.inr (pm_kc 3, [.ref r, .int h, .int 0, .int 0, .int 0, .int 0, .int 0, .int 0, .int (-1), .int 0, .int 0, .int 0, .int 0])))), a3, a4, a5, a6, a7, a8)) : pm_C l G m_X11_newNut [.int (nI 3), .ref r, .int h] ad (a0, a1, a2, a3, a4, a5, a6, a7, a8) Q := by
  refine pm_met (by decide) (Nat.le_of_ble_eq_true rfl) ?_
  refine pm_iload_n dX11_newNut_0 rfl rfl ?_
  refine pm_tableIn (off := 51) (tgt := 52) dX11_newNut_1 (by decide) (by decide) (by decide) (by decide) ?_
  refine pm_new2 (g := 2) (k := n) nw_RX11_301 dX11_newNut_52 (by decide) (hn) (h0) pm_app2 (Nat.le_of_ble_eq_true rfl) (Nat.le_of_ble_eq_true rfl) (fun b1 h1 => ?_)
  refine pm_dup dX11_newNut_55 rfl ?_
  refine pm_aload_n dX11_newNut_56 rfl rfl ?_
  refine pm_iload_n dX11_newNut_57 rfl rfl ?_
  refine pm_callI (M2 := m_X8_init) (As := [_, _]) ok_X8_init rfl rfl kw_478 kw_479 dX11_newNut_58 rfl rfl (Nat.le_of_ble_eq_true rfl) ⟨⟨Nat.le_of_ble_eq_true rfl, Nat.le_of_ble_eq_true rfl⟩, Nat.le_of_ble_eq_true rfl, Nat.le_of_ble_eq_true rfl⟩ ?_
  refine c_X8_init (kd := 3) (if_pos rfl) ?_
  refine pm_aret dX11_newNut_61 rfl (Or.inr ⟨_, rfl⟩) rfl rfl ?_
  rw [th_vu2]
  exact hQ b1 h1

set_option maxHeartbeats 600000 in
set_option maxRecDepth 100000 in
theorem g_nn4 {l : Launch} {G : pm_G} {ad : Nat → Nat → Nat} {a0 a3 a4 a5 a6 a7 a8 : List pm_A} {a1 a2 : Nat → Option pm_A} {Q : pm_T} {n r : Nat} {h : Int32} (hn : n < 64) (h0 : a2 n = none) (hQ : ∀ b, (∀ g k, ¬ (g = 2 ∧ k = n) → b g k = ad g k) → Q b (some (.ref (b 2 n))) (a0, a1, (va_up a2 n (some (.inr (pm_kc 4, [.ref r, .int h, .int 0, .int 0, .int 0, .int 0, .int 0, .int 0, .int (-1), .int 0, .int 0, .int 0, .int 0])))), a3, a4, a5, a6, a7, a8)) : pm_C l G m_X11_newNut [.int (nI 4), .ref r, .int h] ad (a0, a1, a2, a3, a4, a5, a6, a7, a8) Q := by
  refine pm_met (by decide) (Nat.le_of_ble_eq_true rfl) ?_
  refine pm_iload_n dX11_newNut_0 rfl rfl ?_
  refine pm_tableIn (off := 61) (tgt := 62) dX11_newNut_1 (by decide) (by decide) (by decide) (by decide) ?_
  refine pm_new2 (g := 2) (k := n) nw_RX11_304 dX11_newNut_62 (by decide) (hn) (h0) pm_app2 (Nat.le_of_ble_eq_true rfl) (Nat.le_of_ble_eq_true rfl) (fun b1 h1 => ?_)
  refine pm_dup dX11_newNut_65 rfl ?_
  refine pm_aload_n dX11_newNut_66 rfl rfl ?_
  refine pm_iload_n dX11_newNut_67 rfl rfl ?_
  refine pm_callI (M2 := m_X7_init) (As := [_, _]) ok_X7_init rfl rfl kw_498 kw_499 dX11_newNut_68 rfl rfl (Nat.le_of_ble_eq_true rfl) ⟨⟨Nat.le_of_ble_eq_true rfl, Nat.le_of_ble_eq_true rfl⟩, Nat.le_of_ble_eq_true rfl, Nat.le_of_ble_eq_true rfl⟩ ?_
  refine c_X7_init (kd := 4) (if_pos rfl) ?_
  refine pm_aret dX11_newNut_71 rfl (Or.inr ⟨_, rfl⟩) rfl rfl ?_
  rw [th_vu2]
  exact hQ b1 h1

theorem c_X11_newNut {l : Launch} {G : pm_G} {ad : Nat → Nat → Nat} {a0 a3 a4 a5 a6 a7 a8 : List pm_A} {a1 a2 : Nat → Option pm_A} {Q : pm_T} {kd n r : Nat} {h : Int32} (hk : kd ≤ 4) (hn : n < 64) (h0 : a2 n = none) (hQ : ∀ b, (∀ g k, ¬ (g = 2 ∧ k = n) → b g k = ad g k) → Q b (some (.ref (b 2 n))) (a0, a1, (va_up a2 n (some (.inr (pm_kc kd, [.ref r, .int h, .int 0, .int 0, .int 0, .int 0, .int 0, .int 0, .int (-1), .int 0, .int 0, .int 0, .int 0])))), a3, a4, a5, a6, a7, a8)) : pm_C l G m_X11_newNut [.int (nI kd), .ref r, .int h] ad (a0, a1, a2, a3, a4, a5, a6, a7, a8) Q := by
  rcases (show kd = 0 ∨ kd = 1 ∨ kd = 2 ∨ kd = 3 ∨ kd = 4 by omega) with rfl | rfl | rfl | rfl | rfl
  · exact g_nn0 hn h0 hQ
  · exact g_nn1 hn h0 hQ
  · exact g_nn2 hn h0 hQ
  · exact g_nn3 hn h0 hQ
  · exact g_nn4 hn h0 hQ
set_option maxHeartbeats 600000 in
set_option maxRecDepth 100000 in
theorem c_X4_begins {l : Launch} {G : pm_G} {ad : Nat → Nat → Nat} {a0 a3 a4 a5 a6 a7 a8 : List pm_A} {a1 a2 : Nat → Option pm_A} {Q : pm_T} {kd n r : Nat} {h : Int32} {i c wt : Int32} (hQ : Q ad none (a0, a1, (va_up a2 n (some (.inr (pm_kc kd, [.ref r, .int h, .int i, .int c, .int wt, .int c, .int 0, .int 0, .int (-1), .int 0, .int 0, .int 0, .int 0])))), a3, a4, a5, a6, a7, a8)) : pm_C l G m_X4_begins [.ref (ad 2 n), .int i, .int c, .int wt] ad (a0, a1, (va_up a2 n (some (.inr (pm_kc kd, [.ref r, .int h, .int 0, .int 0, .int 0, .int 0, .int 0, .int 0, .int (-1), .int 0, .int 0, .int 0, .int 0])))), a3, a4, a5, a6, a7, a8) Q := by
  refine pm_met (by decide) (Nat.le_of_ble_eq_true rfl) ?_
  refine pm_aload_n dX4_begins_0 rfl rfl ?_
  refine pm_iload_n dX4_begins_1 rfl rfl ?_
  refine pm_put (w2 := (_, _, _, _, _, _, _, _, _)) (fn_RX4_22 _) (fpn_2 _) dX4_begins_2 (show pm_get? _ 2 n = _ from if_pos rfl) rfl rfl (Nat.le_of_ble_eq_true rfl) rfl ?_
  refine pm_aload_n dX4_begins_5 rfl rfl ?_
  refine pm_iload_n dX4_begins_6 rfl rfl ?_
  refine pm_put (w2 := (_, _, _, _, _, _, _, _, _)) (fn_RX4_25 _) (fpn_3 _) dX4_begins_7 (show pm_get? _ 2 n = _ from if_pos rfl) rfl rfl (Nat.le_of_ble_eq_true rfl) rfl ?_
  refine pm_aload_n dX4_begins_10 rfl rfl ?_
  refine pm_iload_n dX4_begins_11 rfl rfl ?_
  refine pm_put (w2 := (_, _, _, _, _, _, _, _, _)) (fn_RX4_28 _) (fpn_5 _) dX4_begins_12 (show pm_get? _ 2 n = _ from if_pos rfl) rfl rfl (Nat.le_of_ble_eq_true rfl) rfl ?_
  refine pm_aload_n dX4_begins_15 rfl rfl ?_
  refine pm_iload_n dX4_begins_16 rfl rfl ?_
  refine pm_put (w2 := (_, _, _, _, _, _, _, _, _)) (fn_RX4_31 _) (fpn_4 _) dX4_begins_17 (show pm_get? _ 2 n = _ from if_pos rfl) rfl rfl (Nat.le_of_ble_eq_true rfl) rfl ?_
  refine pm_vret dX4_begins_20 rfl rfl rfl ?_
  refine th_q2 ?_ hQ
  rw [th_vu2, th_vu2, th_vu2, th_vu2]
  rfl

abbrev th_nok (h c wt : Int32) : Prop := (1 ≤ h ∧ h ≤ 9) ∧ (0 ≤ c ∧ c ≤ 99) ∧ (1 ≤ wt ∧ wt ≤ 99)
def th_nutA (S : Nat → Nat) (k sc h c wt : Int32) : Int32 := if 0 ≤ k ∧ k ≤ 4 then (if th_ok sc (S 2) then (if th_nok h c wt then (if S 11 = 8 then -104 else nI (S 11)) else -102) else -101) else -102
def th_nuS (S : Nat → Nat) : Nat → Nat := va_up S 11 (S 11 + 1)
def th_nuT (S : Nat → Nat) (A : Nat → Nat → Int32) (k sc h c wt : Int32) : Nat → Nat → Int32 := va_up (va_up (va_up (va_up (va_up (va_up A 6 (upd (A 6) (S 11) k)) 7 (upd (A 7) (S 11) sc)) 8 (upd (A 8) (S 11) h)) 9 (upd (A 9) (S 11) c)) 10 (upd (A 10) (S 11) wt)) 11 (upd (A 11) (S 11) c)
def th_nutS (S : Nat → Nat) (k sc h c wt : Int32) : Nat → Nat := if 0 ≤ k ∧ k ≤ 4 then (if th_ok sc (S 2) then (if th_nok h c wt then (if S 11 = 8 then S else th_nuS S) else S) else S) else S
def th_nutT (S : Nat → Nat) (A : Nat → Nat → Int32) (k sc h c wt : Int32) : Nat → Nat → Int32 := if 0 ≤ k ∧ k ≤ 4 then (if th_ok sc (S 2) then (if th_nok h c wt then (if S 11 = 8 then A else th_nuT S A k sc h c wt) else A) else A) else A
def th_nuY (S : Nat → Nat) (Y : Nat → Nat → Int32) : Nat → Nat → Int32 := va_up (va_up (va_up (va_up Y 20 (upd (Y 20) (S 11) 0)) 21 (upd (Y 21) (S 11) 0)) 22 (upd (Y 22) (S 11) 0)) 23 (upd (Y 23) (S 11) 0)
def th_nutY (S : Nat → Nat) (Y : Nat → Nat → Int32) (k sc h c wt : Int32) : Nat → Nat → Int32 := if 0 ≤ k ∧ k ≤ 4 then (if th_ok sc (S 2) then (if th_nok h c wt then (if S 11 = 8 then Y else th_nuY S Y) else Y) else Y) else Y
theorem th_g2_nu {ad : Nat → Nat → Nat} {S : Nat → Nat} {A Y : Nat → Nat → Int32} {kd j : Nat} {h c wt : Int32} (hI : th_I S A) (h8 : S 11 < 8) (hk : kd ≤ 4) (hj : j < S 2) : va_up (th_g2 ad S A Y) (S 11) (some (.inr (pm_kc kd, [.ref (ad 1 j), .int h, .int (nI (S 11)), .int c, .int wt, .int c, .int 0, .int 0, .int (-1), .int 0, .int 0, .int 0, .int 0]))) = th_g2 ad (th_nuS S) (th_nuT S A (nI kd) (nI j) h c wt) (th_nuY S Y) := by
  funext i
  have h3 := hI.2.1.1
  obtain ⟨z1, z2, z3⟩ := hI.2.2.2.2.1.2.2 (S 11) (Nat.le_refl _) h8
  by_cases e : i = S 11
  · subst e
    rw [show th_g2 ad (th_nuS S) (th_nuT S A (nI kd) (nI j) h c wt) (th_nuY S Y) (S 11) = some (.inr (pm_kc (th_n (th_nuT S A (nI kd) (nI j) h c wt 6 (S 11))), th_nf ad (th_nuT S A (nI kd) (nI j) h c wt) (th_nuY S Y) (S 11))) from if_pos (Nat.lt_succ_self _)]
    have e6 : th_n (th_nuT S A (nI kd) (nI j) h c wt 6 (S 11)) = kd := by
      rw [show th_nuT S A (nI kd) (nI j) h c wt 6 (S 11) = nI kd from if_pos rfl, th_n_nI (by omega)]
    have e7 : th_n (th_nuT S A (nI kd) (nI j) h c wt 7 (S 11)) = j := by
      rw [show th_nuT S A (nI kd) (nI j) h c wt 7 (S 11) = nI j from if_pos rfl, th_n_nI (by omega)]
    rw [e6, th_nf, e7, show th_nuT S A (nI kd) (nI j) h c wt 8 (S 11) = h from if_pos rfl, show th_nuT S A (nI kd) (nI j) h c wt 9 (S 11) = c from if_pos rfl, show th_nuT S A (nI kd) (nI j) h c wt 10 (S 11) = wt from if_pos rfl, show th_nuT S A (nI kd) (nI j) h c wt 11 (S 11) = c from if_pos rfl, show th_nuT S A (nI kd) (nI j) h c wt 12 (S 11) = 0 from z1, show th_nuT S A (nI kd) (nI j) h c wt 13 (S 11) = 0 from z2, show th_nuT S A (nI kd) (nI j) h c wt 14 (S 11) = -1 from z3, show th_nuY S Y 20 (S 11) = 0 from if_pos rfl, show th_nuY S Y 21 (S 11) = 0 from if_pos rfl, show th_nuY S Y 22 (S 11) = 0 from if_pos rfl, show th_nuY S Y 23 (S 11) = 0 from if_pos rfl]
    exact if_pos rfl
  · rw [show va_up (th_g2 ad S A Y) (S 11) _ i = th_g2 ad S A Y i from if_neg e]
    by_cases hi : i < S 11
    · rw [th_nt_get hi, show th_g2 ad (th_nuS S) (th_nuT S A (nI kd) (nI j) h c wt) (th_nuY S Y) i = some (.inr (pm_kc (th_n (th_nuT S A (nI kd) (nI j) h c wt 6 i)), th_nf ad (th_nuT S A (nI kd) (nI j) h c wt) (th_nuY S Y) i)) from if_pos (Nat.lt_succ_of_lt hi), th_nf, th_nf, show th_nuT S A (nI kd) (nI j) h c wt 6 i = A 6 i from if_neg e, show th_nuT S A (nI kd) (nI j) h c wt 7 i = A 7 i from if_neg e, show th_nuT S A (nI kd) (nI j) h c wt 8 i = A 8 i from if_neg e, show th_nuT S A (nI kd) (nI j) h c wt 9 i = A 9 i from if_neg e, show th_nuT S A (nI kd) (nI j) h c wt 10 i = A 10 i from if_neg e, show th_nuT S A (nI kd) (nI j) h c wt 11 i = A 11 i from if_neg e, show th_nuY S Y 20 i = Y 20 i from if_neg e, show th_nuY S Y 21 i = Y 21 i from if_neg e, show th_nuY S Y 22 i = Y 22 i from if_neg e, show th_nuY S Y 23 i = Y 23 i from if_neg e]
      rfl
    · rw [show th_g2 ad S A Y i = none from if_neg hi]
      exact (if_neg (fun z : i < S 11 + 1 => by omega)).symm
set_option maxHeartbeats 600000 in
set_option maxRecDepth 100000 in
theorem c_X12_nut {l : Launch} {G : pm_G} {ad : Nat → Nat → Nat} {a0 a3 a4 a5 a6 a7 : List pm_A} {a1 a2 : Nat → Option pm_A} {S : Nat → Nat} {A : Nat → Nat → Int32} {s : Nat → Int32} {B : Nat → Nat → Int32} {hs : Int64} {Q : pm_T} {k sc h c wt : Int32} (hI : th_I S A) (hQ : Q ad (some (.int (th_nutA S k sc h c wt))) (a0, a1, a2, a3, a4, a5, a6, a7, th_mp ad (th_nutS S k sc h c wt) (th_nutT S A k sc h c wt) s B hs)) : pm_C l G m_X12_nut [.ref (ad 8 0), .int k, .int sc, .int h, .int c, .int wt] ad (a0, a1, a2, a3, a4, a5, a6, a7, th_mp ad S A s B hs) Q := by
  have h8 := hI.2.2.2.2.1.1
  have h3 := hI.2.1.1
  refine pm_met (by decide) (Nat.le_of_ble_eq_true rfl) ?_
  refine pm_iload_n dX12_nut_0 rfl rfl ?_
  refine pm_i2l dX12_nut_1 ?_
  refine pm_lconst (v := 0) dX12_nut_2 (by decide) ?_
  refine pm_ldc2 kw_1147 dX12_nut_3 ?_
  refine pm_callS (M2 := m_X12_in) (As := [_, _, _]) ok_X12_in kw_1115 kw_1116 dX12_nut_6 rfl rfl (Nat.le_of_ble_eq_true rfl) ⟨⟨Nat.le_of_ble_eq_true rfl, Nat.le_of_ble_eq_true rfl⟩, Nat.le_of_ble_eq_true rfl, Nat.le_of_ble_eq_true rfl⟩ ?_
  refine c_X12_in32 (lo := 0) (hi := 4) rfl rfl (fun u v => ?_) (fun u => ?_)
  · have hk1 : 0 ≤ k ∧ k ≤ 4 := ⟨u, v⟩
    rw [th_nutA, th_nutS, th_nutT, if_pos hk1, if_pos hk1, if_pos hk1] at hQ
    refine pm_if_ne (tgt := 15) dX12_nut_9 (by decide) (fun c_9 => ?_) (fun c_9 => absurd c_9 (by decide))
    refine pm_aload_n dX12_nut_15 rfl rfl ?_
    refine pm_iload_n dX12_nut_16 rfl rfl ?_
    refine pm_callV (M2 := m_X12_isSchool) (As := [_]) ok_X12_isSchool (ci := 12) rfl kw_1126 kw_1128 kw_22 dX12_nut_17 rfl rfl rfl (Nat.le_of_ble_eq_true rfl) ⟨⟨Nat.le_of_ble_eq_true rfl, Nat.le_of_ble_eq_true rfl⟩, Nat.le_of_ble_eq_true rfl, Nat.le_of_ble_eq_true rfl⟩ ?_
    refine c_X12_isSchool h3 (fun j hj e => ?_) (fun hn => ?_)
    · subst e
      rw [if_pos (th_okt hj (by omega)), if_pos (th_okt hj (by omega)), if_pos (th_okt hj (by omega))] at hQ
      refine pm_if_ne (tgt := 26) dX12_nut_20 (by decide) (fun c_20 => ?_) (fun c_20 => absurd c_20 (by decide))
      refine pm_iload_n dX12_nut_26 rfl rfl ?_
      refine pm_i2l dX12_nut_27 ?_
      refine pm_lconst (v := 1) dX12_nut_28 (by decide) ?_
      refine pm_ldc2 kw_1148 dX12_nut_29 ?_
      refine pm_callS (M2 := m_X12_in) (As := [_, _, _]) ok_X12_in kw_1115 kw_1116 dX12_nut_32 rfl rfl (Nat.le_of_ble_eq_true rfl) ⟨⟨Nat.le_of_ble_eq_true rfl, Nat.le_of_ble_eq_true rfl⟩, Nat.le_of_ble_eq_true rfl, Nat.le_of_ble_eq_true rfl⟩ ?_
      refine c_X12_in32 (lo := 1) (hi := 9) rfl rfl (fun u1 v1 => ?_) (fun u2 => ?_)
      · refine pm_if_eq (tgt := 64) dX12_nut_35 (by decide) (fun c_35 => absurd c_35 (by decide)) (fun c_35 => ?_)
        refine pm_iload dX12_nut_38 rfl ?_
        refine pm_i2l dX12_nut_40 ?_
        refine pm_lconst (v := 0) dX12_nut_41 (by decide) ?_
        refine pm_ldc2 kw_1149 dX12_nut_42 ?_
        refine pm_callS (M2 := m_X12_in) (As := [_, _, _]) ok_X12_in kw_1115 kw_1116 dX12_nut_45 rfl rfl (Nat.le_of_ble_eq_true rfl) ⟨⟨Nat.le_of_ble_eq_true rfl, Nat.le_of_ble_eq_true rfl⟩, Nat.le_of_ble_eq_true rfl, Nat.le_of_ble_eq_true rfl⟩ ?_
        refine c_X12_in32 (lo := 0) (hi := 99) rfl rfl (fun u3 v3 => ?_) (fun u2 => ?_)
        · refine pm_if_eq (tgt := 64) dX12_nut_48 (by decide) (fun c_48 => absurd c_48 (by decide)) (fun c_48 => ?_)
          refine pm_iload dX12_nut_51 rfl ?_
          refine pm_i2l dX12_nut_53 ?_
          refine pm_lconst (v := 1) dX12_nut_54 (by decide) ?_
          refine pm_ldc2 kw_1149 dX12_nut_55 ?_
          refine pm_callS (M2 := m_X12_in) (As := [_, _, _]) ok_X12_in kw_1115 kw_1116 dX12_nut_58 rfl rfl (Nat.le_of_ble_eq_true rfl) ⟨⟨Nat.le_of_ble_eq_true rfl, Nat.le_of_ble_eq_true rfl⟩, Nat.le_of_ble_eq_true rfl, Nat.le_of_ble_eq_true rfl⟩ ?_
          refine c_X12_in32 (lo := 1) (hi := 99) rfl rfl (fun u4 v4 => ?_) (fun u2 => ?_)
          · have hyes : th_nok h c wt := ⟨⟨u1, v1⟩, ⟨u3, v3⟩, u4, v4⟩
            rw [if_pos hyes, if_pos hyes, if_pos hyes] at hQ
            refine pm_if_ne (tgt := 67) dX12_nut_61 (by decide) (fun c_61 => ?_) (fun c_61 => absurd c_61 (by decide))
            refine pm_aload_n dX12_nut_67 rfl rfl ?_
            refine pm_get fl_RX12_137_12 dX12_nut_68 rfl rfl ?_
            refine pm_bipush (v := 8) dX12_nut_71 (by decide) ?_
            refine pm_icmp_ne (tgt := 79) dX12_nut_73 (by decide) (fun c_73 => ?_) (fun c_73 => ?_)
            · have e8 : ¬ S 11 = 8 := fun e => c_73 (by rw [e]; rfl)
              rw [if_neg e8, if_neg e8, if_neg e8] at hQ
              refine pm_aload_n dX12_nut_79 rfl rfl ?_
              refine pm_get fl_RX12_25_12 dX12_nut_80 rfl rfl ?_
              refine pm_aload_n dX12_nut_83 rfl rfl ?_
              refine pm_get fl_RX12_137_12 dX12_nut_84 rfl rfl ?_
              refine pm_iload_n dX12_nut_87 rfl rfl ?_
              refine pm_iast (w2 := (_, _, _, _, _, _, _, _, [_, _, _, _, _, _, _, _, _, _, _, _, _, _, _, _, _, _, _, _, _, _, _, _])) dX12_nut_88 rfl (th_in (by omega) (by decide)) rfl ?_
              rw [th_cl (by omega)]
              refine pm_aload_n dX12_nut_89 rfl rfl ?_
              refine pm_get fl_RX12_28_12 dX12_nut_90 rfl rfl ?_
              refine pm_aload_n dX12_nut_93 rfl rfl ?_
              refine pm_get fl_RX12_137_12 dX12_nut_94 rfl rfl ?_
              refine pm_iload_n dX12_nut_97 rfl rfl ?_
              refine pm_iast (w2 := (_, _, _, _, _, _, _, _, [_, _, _, _, _, _, _, _, _, _, _, _, _, _, _, _, _, _, _, _, _, _, _, _])) dX12_nut_98 rfl (th_in (by omega) (by decide)) rfl ?_
              rw [th_cl (by omega)]
              refine pm_aload_n dX12_nut_99 rfl rfl ?_
              refine pm_get fl_RX12_31_12 dX12_nut_100 rfl rfl ?_
              refine pm_aload_n dX12_nut_103 rfl rfl ?_
              refine pm_get fl_RX12_137_12 dX12_nut_104 rfl rfl ?_
              refine pm_iload_n dX12_nut_107 rfl rfl ?_
              refine pm_iast (w2 := (_, _, _, _, _, _, _, _, [_, _, _, _, _, _, _, _, _, _, _, _, _, _, _, _, _, _, _, _, _, _, _, _])) dX12_nut_108 rfl (th_in (by omega) (by decide)) rfl ?_
              rw [th_cl (by omega)]
              refine pm_aload_n dX12_nut_109 rfl rfl ?_
              refine pm_get fl_RX12_34_12 dX12_nut_110 rfl rfl ?_
              refine pm_aload_n dX12_nut_113 rfl rfl ?_
              refine pm_get fl_RX12_137_12 dX12_nut_114 rfl rfl ?_
              refine pm_iload dX12_nut_117 rfl ?_
              refine pm_iast (w2 := (_, _, _, _, _, _, _, _, [_, _, _, _, _, _, _, _, _, _, _, _, _, _, _, _, _, _, _, _, _, _, _, _])) dX12_nut_119 rfl (th_in (by omega) (by decide)) rfl ?_
              rw [th_cl (by omega)]
              refine pm_aload_n dX12_nut_120 rfl rfl ?_
              refine pm_get fl_RX12_37_12 dX12_nut_121 rfl rfl ?_
              refine pm_aload_n dX12_nut_124 rfl rfl ?_
              refine pm_get fl_RX12_137_12 dX12_nut_125 rfl rfl ?_
              refine pm_iload dX12_nut_128 rfl ?_
              refine pm_iast (w2 := (_, _, _, _, _, _, _, _, [_, _, _, _, _, _, _, _, _, _, _, _, _, _, _, _, _, _, _, _, _, _, _, _])) dX12_nut_130 rfl (th_in (by omega) (by decide)) rfl ?_
              rw [th_cl (by omega)]
              refine pm_aload_n dX12_nut_131 rfl rfl ?_
              refine pm_get fl_RX12_40_12 dX12_nut_132 rfl rfl ?_
              refine pm_aload_n dX12_nut_135 rfl rfl ?_
              refine pm_get fl_RX12_137_12 dX12_nut_136 rfl rfl ?_
              refine pm_iload dX12_nut_139 rfl ?_
              refine pm_iast (w2 := (_, _, _, _, _, _, _, _, [_, _, _, _, _, _, _, _, _, _, _, _, _, _, _, _, _, _, _, _, _, _, _, _])) dX12_nut_141 rfl (th_in (by omega) (by decide)) rfl ?_
              rw [th_cl (by omega)]
              refine pm_aload_n dX12_nut_142 rfl rfl ?_
              refine pm_dup dX12_nut_143 rfl ?_
              refine pm_get fl_RX12_137_12 dX12_nut_144 rfl rfl ?_
              refine pm_iconst (v := 1) dX12_nut_147 (by decide) ?_
              refine pm_iadd dX12_nut_148 ?_
              rw [nI_1]
              refine pm_put (w2 := (_, _, _, _, _, _, _, _, [.inr (_, [_, _, _, _, _, _, _, _, _, _, _, _, _, _, _, _, _, _, _, _, _, _, _, _, _, _, _, _, _, _, _, _, _, _, _, _, _, _, _, _, _, _, _, _]), _, _, _, _, _, _, _, _, _, _, _, _, _, _, _, _, _, _, _, _, _, _, _])) fl_RX12_137_12 fp_12_11 dX12_nut_149 rfl rfl rfl (Nat.le_of_ble_eq_true rfl) rfl ?_
              refine pm_aload_n dX12_nut_152 rfl rfl ?_
              refine pm_get fl_RX12_137_12 dX12_nut_153 rfl rfl ?_
              refine pm_iconst (v := 1) dX12_nut_156 (by decide) ?_
              refine pm_isub dX12_nut_157 ?_
              refine pm_iret dX12_nut_158 rfl rfl rfl ?_
              have e : nI (S 11 + 1) - 1 = nI (S 11) := pk_sub (a := S 11 + 1) (b := 1) (by omega)
              refine th_r e.symm ?_
              exact hQ
            · refine pm_bipush (v := (-104)) dX12_nut_76 (by decide) ?_
              refine pm_iret dX12_nut_78 rfl rfl rfl ?_
              have e8 : S 11 = 8 := (nI_eq (b := 8) (by omega) (by decide)).mp c_73
              rw [if_pos e8, if_pos e8, if_pos e8] at hQ
              exact hQ
          · have hno : ¬ th_nok h c wt := fun z => u2 z.2.2
            rw [if_neg hno, if_neg hno, if_neg hno] at hQ
            refine pm_if_ne (tgt := 67) dX12_nut_61 (by decide) (fun c_61 => absurd (rfl) c_61) (fun c_61 => ?_)
            refine pm_bipush (v := (-102)) dX12_nut_64 (by decide) ?_
            refine pm_iret dX12_nut_66 rfl rfl rfl ?_
            exact hQ
        · have hno : ¬ th_nok h c wt := fun z => u2 z.2.1
          rw [if_neg hno, if_neg hno, if_neg hno] at hQ
          refine pm_if_eq (tgt := 64) dX12_nut_48 (by decide) (fun c_48 => ?_) (fun c_48 => absurd (rfl) c_48)
          refine pm_bipush (v := (-102)) dX12_nut_64 (by decide) ?_
          refine pm_iret dX12_nut_66 rfl rfl rfl ?_
          exact hQ
      · have hno : ¬ th_nok h c wt := fun z => u2 z.1
        rw [if_neg hno, if_neg hno, if_neg hno] at hQ
        refine pm_if_eq (tgt := 64) dX12_nut_35 (by decide) (fun c_35 => ?_) (fun c_35 => absurd (rfl) c_35)
        refine pm_bipush (v := (-102)) dX12_nut_64 (by decide) ?_
        refine pm_iret dX12_nut_66 rfl rfl rfl ?_
        exact hQ
    · rw [if_neg (th_okf hn (by omega)), if_neg (th_okf hn (by omega)), if_neg (th_okf hn (by omega))] at hQ
      refine pm_if_ne (tgt := 26) dX12_nut_20 (by decide) (fun c_20 => absurd (rfl) c_20) (fun c_20 => ?_)
      refine pm_bipush (v := (-101)) dX12_nut_23 (by decide) ?_
      refine pm_iret dX12_nut_25 rfl rfl rfl ?_
      exact hQ
  · rw [th_nutA, th_nutS, th_nutT, if_neg u, if_neg u, if_neg u] at hQ
    refine pm_if_ne (tgt := 15) dX12_nut_9 (by decide) (fun c_9 => absurd (rfl) c_9) (fun c_9 => ?_)
    refine pm_bipush (v := (-102)) dX12_nut_12 (by decide) ?_
    refine pm_iret dX12_nut_14 rfl rfl rfl ?_
    exact hQ

set_option maxHeartbeats 600000 in
set_option maxRecDepth 100000 in
theorem c_X11_nut {l : Launch} {G : pm_G} {ad : Nat → Nat → Nat} {S : Nat → Nat} {A : Nat → Nat → Int32} {X : Nat → Int32} {Y : Nat → Nat → Int32} {F : Nat → Int64} {Hd Cs : Nat → Option Nat} {m : List pm_A} {Q : pm_T} {k sc h c wt : Int32} (hI : th_I S A) (hQ : ∀ b, th_same ad b S → b 3 2 = ad 3 2 → Q b (some (.int (th_nutA S k sc h c wt))) (th_cw b (th_nutS S k sc h c wt) (th_nutT S A k sc h c wt) X (th_nutY S Y k sc h c wt) F Hd Cs m)) : pm_C l G m_X11_nut [.ref (ad 0 0), .int k, .int sc, .int h, .int c, .int wt] ad (th_cw ad S A X Y F Hd Cs m) Q := by
  have h8 := hI.2.2.2.2.1.1
  have h3 := hI.2.1.1
  refine pm_met (by decide) (Nat.le_of_ble_eq_true rfl) ?_
  refine pm_iload_n dX11_nut_0 rfl rfl ?_
  refine pm_iconst (v := 0) dX11_nut_1 (by decide) ?_
  refine pm_iconst (v := 4) dX11_nut_2 (by decide) ?_
  refine pm_callS (M2 := m_X11_isOutside) (As := [_, _, _]) ok_X11_isOutside kw_361 kw_362 dX11_nut_3 rfl rfl (Nat.le_of_ble_eq_true rfl) ⟨⟨Nat.le_of_ble_eq_true rfl, Nat.le_of_ble_eq_true rfl⟩, Nat.le_of_ble_eq_true rfl, Nat.le_of_ble_eq_true rfl⟩ ?_
  refine c_X11_isOutside (fun u => ?_) (fun u v => ?_)
  · refine pm_wide (k := 1) (n := 13) (Nat.le_of_ble_eq_true rfl) (Nat.le_of_ble_eq_true rfl) ?_
    refine pm_if_eq (tgt := 12) dX11_nut_6 (by decide) (fun c_6 => absurd c_6 (by decide)) (fun c_6 => ?_)
    refine pm_bipush (v := (-102)) dX11_nut_9 (by decide) ?_
    refine pm_iret dX11_nut_11 rfl rfl rfl ?_
    have hq := hQ ad (th_same_r ad S) rfl
    rw [th_nutA, th_nutS, th_nutT, th_nutY, if_neg u, if_neg u, if_neg u, if_neg u] at hq
    exact hq
  · have hk1 : 0 ≤ k ∧ k ≤ 4 := ⟨u, v⟩
    obtain ⟨kd, hkd, rfl⟩ := th_03 u (n := 4) (by decide) v
    refine pm_if_eq (tgt := 12) dX11_nut_6 (by decide) (fun c_6 => ?_) (fun c_6 => absurd (rfl) c_6)
    refine pm_aload_n dX11_nut_12 rfl rfl ?_
    refine pm_iload_n dX11_nut_13 rfl rfl ?_
    refine pm_callV (M2 := m_X11_schoolOf) (As := [_]) ok_X11_schoolOf (ci := 11) rfl kw_357 kw_359 kw_4 dX11_nut_14 rfl rfl rfl (Nat.le_of_ble_eq_true rfl) ⟨⟨Nat.le_of_ble_eq_true rfl, Nat.le_of_ble_eq_true rfl⟩, Nat.le_of_ble_eq_true rfl, Nat.le_of_ble_eq_true rfl⟩ ?_
    refine c_X11_schoolOf h3 (fun j hj e => ?_) (fun hn => ?_)
    · subst e
      refine pm_astore (lv2 := [(6, _), (0, _), (1, _), (2, _), (3, _), (4, _), (5, _)]) dX11_nut_17 (Nat.le_of_ble_eq_true rfl) rfl ?_
      refine pm_aload dX11_nut_19 rfl ?_
      refine pm_ifnonnull (tgt := 27) dX11_nut_21 (by decide) ?_
      refine pm_iload_n dX11_nut_27 rfl rfl ?_
      refine pm_iconst (v := 1) dX11_nut_28 (by decide) ?_
      refine pm_bipush (v := 9) dX11_nut_29 (by decide) ?_
      refine pm_callS (M2 := m_X11_isOutside) (As := [_, _, _]) ok_X11_isOutside kw_361 kw_362 dX11_nut_31 rfl rfl (Nat.le_of_ble_eq_true rfl) ⟨⟨Nat.le_of_ble_eq_true rfl, Nat.le_of_ble_eq_true rfl⟩, Nat.le_of_ble_eq_true rfl, Nat.le_of_ble_eq_true rfl⟩ ?_
      refine c_X11_isOutside (fun u2 => ?_) (fun u1 v1 => ?_)
      · refine pm_wide (k := 1) (n := 13) (Nat.le_of_ble_eq_true rfl) (Nat.le_of_ble_eq_true rfl) ?_
        have hno : ¬ th_nok h c wt := fun z => u2 z.1
        refine pm_if_ne (tgt := 59) dX11_nut_34 (by decide) (fun c_34 => ?_) (fun c_34 => absurd c_34 (by decide))
        refine pm_bipush (v := (-102)) dX11_nut_59 (by decide) ?_
        refine pm_iret dX11_nut_61 rfl rfl rfl ?_
        have hq := hQ ad (th_same_r ad S) rfl
        rw [th_nutA, th_nutS, th_nutT, th_nutY, if_pos hk1, if_pos hk1, if_pos hk1, if_pos hk1, if_pos (th_okt hj (by omega)), if_pos (th_okt hj (by omega)), if_pos (th_okt hj (by omega)), if_pos (th_okt hj (by omega)), if_neg hno, if_neg hno, if_neg hno, if_neg hno] at hq
        exact hq
      · refine pm_if_ne (tgt := 59) dX11_nut_34 (by decide) (fun c_34 => absurd (rfl) c_34) (fun c_34 => ?_)
        refine pm_iload dX11_nut_37 rfl ?_
        refine pm_iconst (v := 0) dX11_nut_39 (by decide) ?_
        refine pm_bipush (v := 99) dX11_nut_40 (by decide) ?_
        refine pm_callS (M2 := m_X11_isOutside) (As := [_, _, _]) ok_X11_isOutside kw_361 kw_362 dX11_nut_42 rfl rfl (Nat.le_of_ble_eq_true rfl) ⟨⟨Nat.le_of_ble_eq_true rfl, Nat.le_of_ble_eq_true rfl⟩, Nat.le_of_ble_eq_true rfl, Nat.le_of_ble_eq_true rfl⟩ ?_
        refine c_X11_isOutside (fun u2 => ?_) (fun u3 v3 => ?_)
        · refine pm_wide (k := 1) (n := 13) (Nat.le_of_ble_eq_true rfl) (Nat.le_of_ble_eq_true rfl) ?_
          have hno : ¬ th_nok h c wt := fun z => u2 z.2.1
          refine pm_if_ne (tgt := 59) dX11_nut_45 (by decide) (fun c_45 => ?_) (fun c_45 => absurd c_45 (by decide))
          refine pm_bipush (v := (-102)) dX11_nut_59 (by decide) ?_
          refine pm_iret dX11_nut_61 rfl rfl rfl ?_
          have hq := hQ ad (th_same_r ad S) rfl
          rw [th_nutA, th_nutS, th_nutT, th_nutY, if_pos hk1, if_pos hk1, if_pos hk1, if_pos hk1, if_pos (th_okt hj (by omega)), if_pos (th_okt hj (by omega)), if_pos (th_okt hj (by omega)), if_pos (th_okt hj (by omega)), if_neg hno, if_neg hno, if_neg hno, if_neg hno] at hq
          exact hq
        · refine pm_if_ne (tgt := 59) dX11_nut_45 (by decide) (fun c_45 => absurd (rfl) c_45) (fun c_45 => ?_)
          refine pm_iload dX11_nut_48 rfl ?_
          refine pm_iconst (v := 1) dX11_nut_50 (by decide) ?_
          refine pm_bipush (v := 99) dX11_nut_51 (by decide) ?_
          refine pm_callS (M2 := m_X11_isOutside) (As := [_, _, _]) ok_X11_isOutside kw_361 kw_362 dX11_nut_53 rfl rfl (Nat.le_of_ble_eq_true rfl) ⟨⟨Nat.le_of_ble_eq_true rfl, Nat.le_of_ble_eq_true rfl⟩, Nat.le_of_ble_eq_true rfl, Nat.le_of_ble_eq_true rfl⟩ ?_
          refine c_X11_isOutside (fun u2 => ?_) (fun u4 v4 => ?_)
          · refine pm_wide (k := 1) (n := 13) (Nat.le_of_ble_eq_true rfl) (Nat.le_of_ble_eq_true rfl) ?_
            have hno : ¬ th_nok h c wt := fun z => u2 z.2.2
            refine pm_if_eq (tgt := 62) dX11_nut_56 (by decide) (fun c_56 => absurd c_56 (by decide)) (fun c_56 => ?_)
            refine pm_bipush (v := (-102)) dX11_nut_59 (by decide) ?_
            refine pm_iret dX11_nut_61 rfl rfl rfl ?_
            have hq := hQ ad (th_same_r ad S) rfl
            rw [th_nutA, th_nutS, th_nutT, th_nutY, if_pos hk1, if_pos hk1, if_pos hk1, if_pos hk1, if_pos (th_okt hj (by omega)), if_pos (th_okt hj (by omega)), if_pos (th_okt hj (by omega)), if_pos (th_okt hj (by omega)), if_neg hno, if_neg hno, if_neg hno, if_neg hno] at hq
            exact hq
          · have hyes : th_nok h c wt := ⟨⟨u1, v1⟩, ⟨u3, v3⟩, u4, v4⟩
            refine pm_if_eq (tgt := 62) dX11_nut_56 (by decide) (fun c_56 => ?_) (fun c_56 => absurd (rfl) c_56)
            refine pm_aload_n dX11_nut_62 rfl rfl ?_
            refine pm_get fl_RX11_103_11 dX11_nut_63 rfl rfl ?_
            refine pm_aload_n dX11_nut_66 rfl rfl ?_
            refine pm_get fl_RX11_24_11 dX11_nut_67 rfl rfl ?_
            refine pm_alen (by decide) dX11_nut_70 rfl ?_
            show pm_W _ _ _ _ _ _ (.int (nI 8) :: _) _ _ _ _
            refine pm_icmp_lt (tgt := 77) dX11_nut_71 (by decide) (fun c_71 => ?_) (fun c_71 => ?_)
            · have hlt : S 11 < 8 := (nI_ltI (by omega) (by decide)).mp c_71
              have e8 : ¬ S 11 = 8 := by omega
              refine pm_iload_n dX11_nut_77 rfl rfl ?_
              refine pm_aload dX11_nut_78 rfl ?_
              refine pm_iload_n dX11_nut_80 rfl rfl ?_
              refine pm_callS (M2 := m_X11_newNut) (As := [_, _, _]) ok_X11_newNut kw_382 kw_383 dX11_nut_81 rfl rfl (Nat.le_of_ble_eq_true rfl) ⟨⟨Nat.le_of_ble_eq_true rfl, Nat.le_of_ble_eq_true rfl⟩, Nat.le_of_ble_eq_true rfl, Nat.le_of_ble_eq_true rfl⟩ ?_
              refine c_X11_newNut (n := S 11) hkd (by omega) (if_neg (Nat.lt_irrefl _)) (fun b hb => ?_)
              have hs : th_same ad b S := ⟨fun k => hb 0 k (fun z => absurd z.1 (by decide)), fun j _ => hb 1 j (fun z => absurd z.1 (by decide)), fun i hi => hb 2 i (fun z => by have := z.2; omega), hb 3 0 (fun z => absurd z.1 (by decide)), hb 3 1 (fun z => absurd z.1 (by decide)), fun g k hg => hb g k (fun z => by have := z.1; omega)⟩
              rw [← th_g0_ad hs, ← th_g2_ad hI hs, ← th_g4_ad hs, ← th_g5_ad (S := S) hs, ← th_g6_ad hs, ← hs.1 0, ← hs.2.1 j hj, show th_g3 ad S A X Y = th_g3 b S A X Y from by unfold th_g3; rw [hb 3 1 (fun z => absurd z.1 (by decide)), hb 3 2 (fun z => absurd z.1 (by decide))]]
              refine pm_astore (lv2 := [(7, _), (6, _), (0, _), (1, _), (2, _), (3, _), (4, _), (5, _)]) dX11_nut_84 (Nat.le_of_ble_eq_true rfl) rfl ?_
              refine pm_aload dX11_nut_86 rfl ?_
              refine pm_aload_n dX11_nut_88 rfl rfl ?_
              refine pm_get fl_RX11_103_11 dX11_nut_89 rfl rfl ?_
              refine pm_iload dX11_nut_92 rfl ?_
              refine pm_iload dX11_nut_94 rfl ?_
              refine cn_RX11_110 (M := m_X11_nut) (As := [_, _, _]) dX11_nut_96 (show pm_get? _ 2 (S 11) = _ from if_pos rfl) rfl (Nat.le_of_ble_eq_true rfl) ⟨⟨Nat.le_of_ble_eq_true rfl, Nat.le_of_ble_eq_true rfl⟩, Nat.le_of_ble_eq_true rfl, Nat.le_of_ble_eq_true rfl⟩ ?_
              refine c_X4_begins ?_
              refine pm_aload_n dX11_nut_99 rfl rfl ?_
              refine pm_get fl_RX11_24_11 dX11_nut_100 rfl rfl ?_
              refine pm_aload_n dX11_nut_103 rfl rfl ?_
              refine pm_get fl_RX11_103_11 dX11_nut_104 rfl rfl ?_
              refine pm_aload dX11_nut_107 rfl ?_
              refine pm_aastN (w2 := ([_, _, _, _], _, _, _, _, _, _, _, _)) (kcl _) (kca _) dX11_nut_109 rfl (show pm_get? _ 2 (S 11) = _ from if_pos rfl) (th_in hlt (by decide)) rfl ?_
              rw [th_cl (by omega), th_rs_up]
              refine pm_aload_n dX11_nut_110 rfl rfl ?_
              refine pm_dup dX11_nut_111 rfl ?_
              refine pm_get fl_RX11_103_11 dX11_nut_112 rfl rfl ?_
              refine pm_iconst (v := 1) dX11_nut_115 (by decide) ?_
              refine pm_iadd dX11_nut_116 ?_
              rw [nI_1]
              refine pm_put (w2 := ([.inr (_, [_, _, _, _, _, _, _, _, _, _, _, _]), _, _, _], _, _, _, _, _, _, _, _)) fl_RX11_103_11 fp_11_9 dX11_nut_117 rfl rfl rfl (Nat.le_of_ble_eq_true rfl) rfl ?_
              refine pm_aload dX11_nut_120 rfl ?_
              refine pm_get (fn_RX11_114 _) dX11_nut_122 (show pm_get? _ 2 (S 11) = _ from if_pos rfl) rfl ?_
              refine pm_iret dX11_nut_125 rfl rfl rfl ?_
              have hq := hQ b hs (hb 3 2 (fun z => absurd z.1 (by decide)))
              rw [th_nutA, th_nutS, th_nutT, th_nutY, if_pos hk1, if_pos hk1, if_pos hk1, if_pos hk1, if_pos (th_okt hj (by omega)), if_pos (th_okt hj (by omega)), if_pos (th_okt hj (by omega)), if_pos (th_okt hj (by omega)), if_pos hyes, if_pos hyes, if_pos hyes, if_pos hyes, if_neg e8, if_neg e8, if_neg e8, if_neg e8, th_cw, ← th_g2_nu hI hlt hkd hj] at hq
              exact hq
            · refine pm_wide (k := 1) (n := 13) (Nat.le_of_ble_eq_true rfl) (Nat.le_of_ble_eq_true rfl) ?_
              refine pm_bipush (v := (-104)) dX11_nut_74 (by decide) ?_
              refine pm_iret dX11_nut_76 rfl rfl rfl ?_
              have e8 : S 11 = 8 := by
                rw [nI_ltI (by omega) (by decide)] at c_71
                omega
              have hq := hQ ad (th_same_r ad S) rfl
              rw [th_nutA, th_nutS, th_nutT, th_nutY, if_pos hk1, if_pos hk1, if_pos hk1, if_pos hk1, if_pos (th_okt hj (by omega)), if_pos (th_okt hj (by omega)), if_pos (th_okt hj (by omega)), if_pos (th_okt hj (by omega)), if_pos hyes, if_pos hyes, if_pos hyes, if_pos hyes, if_pos e8, if_pos e8, if_pos e8, if_pos e8] at hq
              exact hq
    · refine pm_wide (k := 1) (n := 13) (Nat.le_of_ble_eq_true rfl) (Nat.le_of_ble_eq_true rfl) ?_
      refine pm_nstore (lv2 := [(6, _), (0, _), (1, _), (2, _), (3, _), (4, _), (5, _)]) dX11_nut_17 (Nat.le_of_ble_eq_true rfl) rfl ?_
      refine pm_nload dX11_nut_19 rfl ?_
      refine pm_ifnonnullN dX11_nut_21 ?_
      refine pm_bipush (v := (-101)) dX11_nut_24 (by decide) ?_
      refine pm_iret dX11_nut_26 rfl rfl rfl ?_
      have hq := hQ ad (th_same_r ad S) rfl
      rw [th_nutA, th_nutS, th_nutT, th_nutY, if_pos hk1, if_pos hk1, if_pos hk1, if_pos hk1, if_neg (th_okf hn (by omega)), if_neg (th_okf hn (by omega)), if_neg (th_okf hn (by omega)), if_neg (th_okf hn (by omega))] at hq
      exact hq

