def th_gr (c a : Nat) : Nat := c / 3 ^ a % 3 + 1
theorem th_gr_bd (c a : Nat) : 1 ≤ th_gr c a ∧ th_gr c a ≤ 3 := by
  unfold th_gr
  omega
theorem th_fv {a b : Nat} (ha : a ≤ 3) (hb : b ≤ 3) : (5 + nI a - nI b).toInt64 = lN (5 + a - b) := by
  have e : (5 : Int32) + nI a - nI b = nI (5 + a - b) := by
    show nI 5 + nI a - nI b = _
    rw [nI_add, pk_sub (by omega)]
  rw [e, nI_l (by omega)]
def th_fc (c a b : Nat) : Nat := 5 + th_gr c a - th_gr c b
theorem th_fc_bd (c a b : Nat) : 1 ≤ th_fc c a b ∧ th_fc c a b ≤ 7 := by
  have h1 := th_gr_bd c a
  have h2 := th_gr_bd c b
  unfold th_fc
  omega
theorem th_fcv (c a b : Nat) : (5 + nI (th_gr c a) - nI (th_gr c b)).toInt64 = lN (th_fc c a b) := th_fv (th_gr_bd c a).2 (th_gr_bd c b).2
def th_lw (A : Nat → Nat → Int32) (c : Nat) : Nat → Nat
  | 0 => 1
  | f + 1 => th_lw A c f * th_fc c (th_n (A 15 f)) (th_n (A 16 f))
theorem th_lw_bd (A : Nat → Nat → Int32) (c : Nat) : ∀ f, 1 ≤ th_lw A c f ∧ th_lw A c f ≤ 7 ^ f := by
  intro f
  induction f with
  | zero => exact ⟨Nat.le_refl _, Nat.le_refl _⟩
  | succ f ih =>
    have h := th_fc_bd c (th_n (A 15 f)) (th_n (A 16 f))
    rw [th_lw, Nat.pow_succ]
    exact ⟨Nat.mul_le_mul ih.1 h.1, Nat.mul_le_mul ih.2 h.2⟩
theorem th_lw10 {A : Nat → Nat → Int32} {c f : Nat} (h : f ≤ 10) : th_lw A c f ≤ 282475249 := Nat.le_trans (th_lw_bd A c f).2 (show 7 ^ f ≤ 7 ^ 10 from Nat.pow_le_pow_right (by decide) h)
def th_sm1 (f : Nat → Nat) : Nat → Nat
  | 0 => 0
  | n + 1 => th_sm1 f n + f n
theorem th_sm1_le {f : Nat → Nat} {M : Nat} (h : ∀ n, f n ≤ M) : ∀ n, th_sm1 f n ≤ n * M := by
  intro n
  induction n with
  | zero => exact Nat.zero_le _
  | succ n ih =>
    rw [th_sm1, Nat.add_mul, Nat.one_mul]
    exact Nat.add_le_add ih (h n)
theorem th_sm1_ge {f : Nat → Nat} (h : ∀ n, 1 ≤ f n) : ∀ n, n ≤ th_sm1 f n := by
  intro n
  induction n with
  | zero => exact Nat.zero_le _
  | succ n ih =>
    have := h n
    rw [th_sm1]
    omega
def th_ou (S : Nat → Nat) (A : Nat → Nat → Int32) (i j : Nat) : Nat → Nat := th_sm1 (fun c => th_lw A c (S 26) * th_fc c i j)
def th_ol (S : Nat → Nat) (A : Nat → Nat → Int32) : Nat → Nat := th_sm1 (fun c => 10 * th_lw A c (S 26))
def th_ku (S : Nat → Nat) (A : Nat → Nat → Int32) (i : Nat) (g : Int32) : Nat → Nat := th_sm1 (fun c => if nI (th_gr c i) = g then th_lw A c (S 26) else 0)
def th_kl (S : Nat → Nat) (A : Nat → Nat → Int32) : Nat → Nat := th_sm1 (fun c => th_lw A c (S 26))
theorem th_p36 {n : Nat} (h : n ≤ 6) : 1 ≤ 3 ^ n ∧ 3 ^ n ≤ 729 := ⟨Nat.pow_pos (by decide), show 3 ^ n ≤ 3 ^ 6 from Nat.pow_le_pow_right (by decide) h⟩
theorem th_ou_bd {S : Nat → Nat} {A : Nat → Nat → Int32} (h : S 26 ≤ 10) {i j n : Nat} (hn : n ≤ 729) : th_ou S A i j n < 2 ^ 63 := by
  have h1 := th_sm1_le (f := fun c => th_lw A c (S 26) * th_fc c i j) (M := 282475249 * 7) (fun c => Nat.mul_le_mul (th_lw10 h) (th_fc_bd c i j).2) n
  have h2 := Nat.mul_le_mul hn (Nat.le_refl (282475249 * 7))
  unfold th_ou
  omega
theorem th_ol_bd {S : Nat → Nat} {A : Nat → Nat → Int32} (h : S 26 ≤ 10) {n : Nat} (hn : n ≤ 729) : n ≤ th_ol S A n ∧ th_ol S A n < 2 ^ 63 := by
  have h1 := th_sm1_le (f := fun c => 10 * th_lw A c (S 26)) (M := 10 * 282475249) (fun c => Nat.mul_le_mul (Nat.le_refl 10) (th_lw10 h)) n
  have h2 := Nat.mul_le_mul hn (Nat.le_refl (10 * 282475249))
  have h3 := th_sm1_ge (f := fun c => 10 * th_lw A c (S 26)) (fun c => by have := (th_lw_bd A c (S 26)).1; show 1 ≤ 10 * _; omega) n
  unfold th_ol
  exact ⟨h3, by omega⟩
theorem th_ku_bd {S : Nat → Nat} {A : Nat → Nat → Int32} (h : S 26 ≤ 10) {i n : Nat} {g : Int32} (hn : n ≤ 729) : th_ku S A i g n < 2 ^ 63 := by
  have h1 := th_sm1_le (f := fun c => if nI (th_gr c i) = g then th_lw A c (S 26) else 0) (M := 282475249) (fun c => by
    show (if nI (th_gr c i) = g then th_lw A c (S 26) else 0) ≤ _
    by_cases e : nI (th_gr c i) = g
    · rw [if_pos e]; exact th_lw10 h
    · rw [if_neg e]; exact Nat.zero_le _) n
  have h2 := Nat.mul_le_mul hn (Nat.le_refl 282475249)
  unfold th_ku
  omega
theorem th_kl_bd {S : Nat → Nat} {A : Nat → Nat → Int32} (h : S 26 ≤ 10) {n : Nat} (hn : n ≤ 729) : n ≤ th_kl S A n ∧ th_kl S A n < 2 ^ 63 := by
  have h1 := th_sm1_le (f := fun c => th_lw A c (S 26)) (M := 282475249) (fun c => th_lw10 h) n
  have h2 := Nat.mul_le_mul hn (Nat.le_refl 282475249)
  have h3 := th_sm1_ge (f := fun c => th_lw A c (S 26)) (fun c => (th_lw_bd A c (S 26)).1) n
  unfold th_kl
  exact ⟨h3, by omega⟩
def th_oddsA (S : Nat → Nat) (A : Nat → Nat → Int32) (x y p : Int32) : Int64 := if th_ok x (S 11) ∧ th_ok y (S 11) ∧ ¬ x = y then (if 0 ≤ p ∧ p ≤ 1 then (if S 11 ≤ 6 then th_trm (th_ou S A (th_n x) (th_n y) (3 ^ S 11)) (th_ol S A (3 ^ S 11)) p else -103) else -102) else -101
def th_likelyA (S : Nat → Nat) (A : Nat → Nat → Int32) (x g p : Int32) : Int64 := if th_ok x (S 11) then (if (1 ≤ g ∧ g ≤ 3) ∧ (0 ≤ p ∧ p ≤ 1) then (if S 11 ≤ 6 then th_trm (th_ku S A (th_n x) g (3 ^ S 11)) (th_kl S A (3 ^ S 11)) p else -103) else -102) else -101
theorem th_ge {x y : Int64} : 0 ≤ lg_cmp x y ↔ ¬ x < y := by
  rw [← th_lt]
  exact Int32.not_lt.symm
set_option maxHeartbeats 600000 in
set_option maxRecDepth 100000 in
theorem c_X12_likelyOf {l : Launch} {G : pm_G} {ad : Nat → Nat → Nat} {a0 a3 a4 a5 a6 a7 : List pm_A} {a1 a2 : Nat → Option pm_A} {S : Nat → Nat} {A : Nat → Nat → Int32} {s : Nat → Int32} {B : Nat → Nat → Int32} {hs : Int64} {Q : pm_T} {c : Nat} (hI : th_I S A) (hc : c < 729) (hQ : Q ad (some (.long (lN (th_lw A c (S 26))))) (a0, a1, a2, a3, a4, a5, a6, a7, th_mp ad S A s B hs)) : pm_C l G m_X12_likelyOf [.ref (ad 8 0), .int (nI c)] ad (a0, a1, a2, a3, a4, a5, a6, a7, th_mp ad S A s B hs) Q := by
  have h8 := hI.2.2.2.2.1.1
  have h10 := hI.2.2.2.2.2.1.1
  refine pm_met (by decide) (Nat.le_of_ble_eq_true rfl) ?_
  refine pm_lconst (v := 1) dX12_likelyOf_0 (by decide) ?_
  refine pm_lstore_n (lv2 := [(2, _), (0, _), (1, _)]) dX12_likelyOf_1 rfl (Nat.le_of_ble_eq_true rfl) rfl ?_
  refine pm_iconst (v := 0) dX12_likelyOf_2 (by decide) ?_
  refine pm_istore (lv2 := [(4, _), (2, _), (0, _), (1, _)]) dX12_likelyOf_3 (Nat.le_of_ble_eq_true rfl) rfl ?_
  suffices H : ∀ f, f ≤ S 26 → pm_W l G m_X12_likelyOf ad 5 [(4, .int (nI f)), (2, .long (lN (th_lw A c f))), (0, .ref (ad 8 0)), (1, .int (nI c))] [] (a0, a1, a2, a3, a4, a5, a6, a7, th_mp ad S A s B hs) 0 0 Q from H 0 (Nat.zero_le _)
  refine th_loop _ ?_
  intro f hf k
  refine pm_iload dX12_likelyOf_5 rfl ?_
  refine pm_aload_n dX12_likelyOf_7 rfl rfl ?_
  refine pm_get fl_RX12_193_12 dX12_likelyOf_8 rfl rfl ?_
  refine pm_icmp_ge (tgt := 49) dX12_likelyOf_11 (by decide) (fun c_11 => ?_) (fun c_11 => ?_)
  · refine pm_lload_n dX12_likelyOf_49 rfl rfl ?_
    refine pm_lret dX12_likelyOf_50 rfl rfl rfl ?_
    have he : f = S 26 := by
      rw [nI_leI (by omega) (by omega)] at c_11
      omega
    subst he
    exact hQ
  · have hlt : f < S 26 := by
      rw [nI_leI (by omega) (by omega)] at c_11
      omega
    obtain ⟨a, b, ha, hb, hne, ea, eb⟩ := hI.2.2.2.2.2.1.2 f hlt
    have hst : th_lw A c (f + 1) = th_lw A c f * th_fc c a b := by rw [th_lw, ea, eb, th_n_nI (by omega), th_n_nI (by omega)]
    refine pm_lload_n dX12_likelyOf_14 rfl rfl ?_
    refine pm_iconst (v := 5) dX12_likelyOf_15 (by decide) ?_
    refine pm_iload_n dX12_likelyOf_16 rfl rfl ?_
    refine pm_aload_n dX12_likelyOf_17 rfl rfl ?_
    refine pm_get fl_RX12_53_12 dX12_likelyOf_18 rfl rfl ?_
    refine pm_iload dX12_likelyOf_21 rfl ?_
    refine pm_iald dX12_likelyOf_23 rfl (th_in (by omega) (by decide)) ?_
    rw [th_cl (by omega), ea]
    refine pm_callS (M2 := m_X12_softOf) (As := [_, _]) ok_X12_softOf kw_1284 kw_1285 dX12_likelyOf_24 rfl rfl (Nat.le_of_ble_eq_true rfl) ⟨⟨Nat.le_of_ble_eq_true rfl, Nat.le_of_ble_eq_true rfl⟩, Nat.le_of_ble_eq_true rfl, Nat.le_of_ble_eq_true rfl⟩ ?_
    refine c_X12_softOf hc (by omega) ?_
    rw [show c / 3 ^ a % 3 + 1 = th_gr c a from rfl]
    refine pm_iadd dX12_likelyOf_27 ?_
    refine pm_iload_n dX12_likelyOf_28 rfl rfl ?_
    refine pm_aload_n dX12_likelyOf_29 rfl rfl ?_
    refine pm_get fl_RX12_56_12 dX12_likelyOf_30 rfl rfl ?_
    refine pm_iload dX12_likelyOf_33 rfl ?_
    refine pm_iald dX12_likelyOf_35 rfl (th_in (by omega) (by decide)) ?_
    rw [th_cl (by omega), eb]
    refine pm_callS (M2 := m_X12_softOf) (As := [_, _]) ok_X12_softOf kw_1284 kw_1285 dX12_likelyOf_36 rfl rfl (Nat.le_of_ble_eq_true rfl) ⟨⟨Nat.le_of_ble_eq_true rfl, Nat.le_of_ble_eq_true rfl⟩, Nat.le_of_ble_eq_true rfl, Nat.le_of_ble_eq_true rfl⟩ ?_
    refine c_X12_softOf hc (by omega) ?_
    rw [show c / 3 ^ b % 3 + 1 = th_gr c b from rfl]
    refine pm_isub dX12_likelyOf_39 ?_
    refine pm_i2l dX12_likelyOf_40 ?_
    rw [th_fcv]
    refine pm_lmul dX12_likelyOf_41 ?_
    rw [lN_mul, ← hst]
    refine pm_lstore_n (lv2 := [(2, _), (4, _), (0, _), (1, _)]) dX12_likelyOf_42 rfl (Nat.le_of_ble_eq_true rfl) rfl ?_
    refine pm_iinc (lv2 := [(4, _), (2, _), (0, _), (1, _)]) dX12_likelyOf_43 rfl (nI_1 f) (Nat.le_of_ble_eq_true rfl) rfl ?_
    refine pm_goto (tgt := 5) dX12_likelyOf_46 (by decide) ?_
    refine pm_pick [0, 1, 2, 3] rfl ?_
    exact k hlt

set_option maxHeartbeats 600000 in
set_option maxRecDepth 100000 in
theorem f_X12_odds {l : Launch} {G : pm_G} {ad : Nat → Nat → Nat} {a0 a3 a4 a5 a6 a7 : List pm_A} {a1 a2 : Nat → Option pm_A} {S : Nat → Nat} {A : Nat → Nat → Int32} {s : Nat → Int32} {B : Nat → Nat → Int32} {hs : Int64} {Q : pm_T} {i j : Nat} {p : Int32} (hI : th_I S A) (hi : i < S 11) (hj : j < S 11) (h6 : S 11 ≤ 6) (hQ : Q ad (some (.long (th_trm (th_ou S A i j (3 ^ S 11)) (th_ol S A (3 ^ S 11)) p))) (a0, a1, a2, a3, a4, a5, a6, a7, th_mp ad S A s B hs)) : ∀ c, c ≤ 3 ^ S 11 → pm_W l G m_X12_odds ad 46 [(8, .int (nI c)), (6, .long (lN (th_ol S A c))), (4, .long (lN (th_ou S A i j c))), (0, .ref (ad 8 0)), (1, .int (nI i)), (2, .int (nI j)), (3, .int p)] [] (a0, a1, a2, a3, a4, a5, a6, a7, th_mp ad S A s B hs) 0 0 Q := by
  have h8 := hI.2.2.2.2.1.1
  have h10 := hI.2.2.2.2.2.1.1
  have hpn := th_p36 h6
  refine th_loop _ ?_
  intro c hc k
  refine pm_iload dX12_odds_46 rfl ?_
  refine pm_iconst (v := 3) dX12_odds_48 (by decide) ?_
  refine pm_aload_n dX12_odds_49 rfl rfl ?_
  refine pm_get fl_RX12_137_12 dX12_odds_50 rfl rfl ?_
  refine pm_callS (M2 := m_X12_power) (As := [_, _]) ok_X12_power kw_1277 kw_1278 dX12_odds_53 rfl rfl (Nat.le_of_ble_eq_true rfl) ⟨⟨Nat.le_of_ble_eq_true rfl, Nat.le_of_ble_eq_true rfl⟩, Nat.le_of_ble_eq_true rfl, Nat.le_of_ble_eq_true rfl⟩ ?_
  refine c_X12_power (by omega) ?_
  rw [th_pi3 _ (by omega)]
  refine pm_icmp_ge (tgt := 108) dX12_odds_56 (by decide) (fun c_56 => ?_) (fun c_56 => ?_)
  · have he : c = 3 ^ S 11 := by
      rw [nI_leI (by omega) (by omega)] at c_56
      omega
    subst he
    refine pm_lload dX12_odds_108 rfl ?_
    refine pm_lload dX12_odds_110 rfl ?_
    refine pm_iload_n dX12_odds_112 rfl rfl ?_
    refine pm_callS (M2 := m_X12_term) (As := [_, _, _]) ok_X12_term kw_1288 kw_1289 dX12_odds_113 rfl rfl (Nat.le_of_ble_eq_true rfl) ⟨⟨Nat.le_of_ble_eq_true rfl, Nat.le_of_ble_eq_true rfl⟩, Nat.le_of_ble_eq_true rfl, Nat.le_of_ble_eq_true rfl⟩ ?_
    refine c_X12_term (th_ou_bd h10 hpn.2) (th_ol_bd h10 hpn.2).2 (by have := (th_ol_bd (A := A) h10 hpn.2).1; omega) ?_
    refine pm_lret dX12_odds_116 rfl rfl rfl ?_
    exact hQ
  · have hlt : c < 3 ^ S 11 := by
      rw [nI_leI (by omega) (by omega)] at c_56
      omega
    refine pm_aload_n dX12_odds_59 rfl rfl ?_
    refine pm_iload dX12_odds_60 rfl ?_
    refine pm_callV (M2 := m_X12_likelyOf) (As := [_]) ok_X12_likelyOf (ci := 12) rfl kw_1280 kw_1282 kw_37 dX12_odds_62 rfl rfl rfl (Nat.le_of_ble_eq_true rfl) ⟨⟨Nat.le_of_ble_eq_true rfl, Nat.le_of_ble_eq_true rfl⟩, Nat.le_of_ble_eq_true rfl, Nat.le_of_ble_eq_true rfl⟩ ?_
    refine c_X12_likelyOf hI (by omega) ?_
    refine pm_lstore (lv2 := [(9, _), (8, _), (6, _), (4, _), (0, _), (1, _), (2, _), (3, _)]) dX12_odds_65 (Nat.le_of_ble_eq_true rfl) rfl ?_
    refine pm_lload dX12_odds_67 rfl ?_
    refine pm_lload dX12_odds_69 rfl ?_
    refine pm_iconst (v := 5) dX12_odds_71 (by decide) ?_
    refine pm_iload dX12_odds_72 rfl ?_
    refine pm_iload_n dX12_odds_74 rfl rfl ?_
    refine pm_callS (M2 := m_X12_softOf) (As := [_, _]) ok_X12_softOf kw_1284 kw_1285 dX12_odds_75 rfl rfl (Nat.le_of_ble_eq_true rfl) ⟨⟨Nat.le_of_ble_eq_true rfl, Nat.le_of_ble_eq_true rfl⟩, Nat.le_of_ble_eq_true rfl, Nat.le_of_ble_eq_true rfl⟩ ?_
    refine c_X12_softOf (by omega) (by omega) ?_
    rw [show c / 3 ^ i % 3 + 1 = th_gr c i from rfl]
    refine pm_iadd dX12_odds_78 ?_
    refine pm_iload dX12_odds_79 rfl ?_
    refine pm_iload_n dX12_odds_81 rfl rfl ?_
    refine pm_callS (M2 := m_X12_softOf) (As := [_, _]) ok_X12_softOf kw_1284 kw_1285 dX12_odds_82 rfl rfl (Nat.le_of_ble_eq_true rfl) ⟨⟨Nat.le_of_ble_eq_true rfl, Nat.le_of_ble_eq_true rfl⟩, Nat.le_of_ble_eq_true rfl, Nat.le_of_ble_eq_true rfl⟩ ?_
    refine c_X12_softOf (by omega) (by omega) ?_
    rw [show c / 3 ^ j % 3 + 1 = th_gr c j from rfl]
    refine pm_isub dX12_odds_85 ?_
    refine pm_i2l dX12_odds_86 ?_
    rw [th_fcv]
    refine pm_lmul dX12_odds_87 ?_
    refine pm_ladd dX12_odds_88 ?_
    rw [lN_mul, lN_add, show th_ou S A i j c + th_lw A c (S 26) * th_fc c i j = th_ou S A i j (c + 1) from rfl]
    refine pm_lstore (lv2 := [(4, _), (9, _), (8, _), (6, _), (0, _), (1, _), (2, _), (3, _)]) dX12_odds_89 (Nat.le_of_ble_eq_true rfl) rfl ?_
    refine pm_lload dX12_odds_91 rfl ?_
    refine pm_ldc2 kw_1287 dX12_odds_93 ?_
    refine pm_lload dX12_odds_96 rfl ?_
    refine pm_lmul dX12_odds_98 ?_
    refine pm_ladd dX12_odds_99 ?_
    rw [show lN (th_ol S A c) + 10 * lN (th_lw A c (S 26)) = lN (th_ol S A (c + 1)) from by
      rw [show (10 : Int64) = lN 10 from rfl, lN_mul, lN_add]; rfl]
    refine pm_lstore (lv2 := [(6, _), (4, _), (9, _), (8, _), (0, _), (1, _), (2, _), (3, _)]) dX12_odds_100 (Nat.le_of_ble_eq_true rfl) rfl ?_
    refine pm_iinc (lv2 := [(8, _), (6, _), (4, _), (9, _), (0, _), (1, _), (2, _), (3, _)]) dX12_odds_102 rfl (nI_1 c) (Nat.le_of_ble_eq_true rfl) rfl ?_
    refine pm_goto (tgt := 46) dX12_odds_105 (by decide) ?_
    refine pm_pick [0, 1, 2, 4, 5, 6, 7] rfl ?_
    exact k hlt

set_option maxHeartbeats 600000 in
set_option maxRecDepth 100000 in
theorem c_X12_odds {l : Launch} {G : pm_G} {ad : Nat → Nat → Nat} {a0 a3 a4 a5 a6 a7 : List pm_A} {a1 a2 : Nat → Option pm_A} {S : Nat → Nat} {A : Nat → Nat → Int32} {s : Nat → Int32} {B : Nat → Nat → Int32} {hs : Int64} {Q : pm_T} {x y p : Int32} (hI : th_I S A) (hQ : Q ad (some (.long (th_oddsA S A x y p))) (a0, a1, a2, a3, a4, a5, a6, a7, th_mp ad S A s B hs)) : pm_C l G m_X12_odds [.ref (ad 8 0), .int x, .int y, .int p] ad (a0, a1, a2, a3, a4, a5, a6, a7, th_mp ad S A s B hs) Q := by
  have h8 := hI.2.2.2.2.1.1
  have h10 := hI.2.2.2.2.2.1.1
  refine pm_met (by decide) (Nat.le_of_ble_eq_true rfl) ?_
  refine pm_aload_n dX12_odds_0 rfl rfl ?_
  refine pm_iload_n dX12_odds_1 rfl rfl ?_
  refine pm_iload_n dX12_odds_2 rfl rfl ?_
  refine pm_callV (M2 := m_X12_isPair) (As := [_, _]) ok_X12_isPair (ci := 12) rfl kw_1174 kw_1176 kw_27 dX12_odds_3 rfl rfl rfl (Nat.le_of_ble_eq_true rfl) ⟨⟨Nat.le_of_ble_eq_true rfl, Nat.le_of_ble_eq_true rfl⟩, Nat.le_of_ble_eq_true rfl, Nat.le_of_ble_eq_true rfl⟩ ?_
  refine c_X12_isPair h8 (fun i j hi hj hij ex ey => ?_) (fun hn => ?_)
  · subst ex ey
    have hcd : th_ok (nI i) (S 11) ∧ th_ok (nI j) (S 11) ∧ ¬ nI i = nI j := ⟨th_okt hi (by omega), th_okt hj (by omega), fun e => hij ((nI_eq (by omega) (by omega)).mp e)⟩
    refine pm_if_ne (tgt := 13) dX12_odds_6 (by decide) (fun c_6 => ?_) (fun c_6 => absurd c_6 (by decide))
    refine pm_iload_n dX12_odds_13 rfl rfl ?_
    refine pm_callS (M2 := m_X12_isPart) (As := [_]) ok_X12_isPart kw_1273 kw_1274 dX12_odds_14 rfl rfl (Nat.le_of_ble_eq_true rfl) ⟨⟨Nat.le_of_ble_eq_true rfl, Nat.le_of_ble_eq_true rfl⟩, Nat.le_of_ble_eq_true rfl, Nat.le_of_ble_eq_true rfl⟩ ?_
    refine c_X12_isPart (fun u2 v2 => ?_) (fun u => ?_)
    · have hcp : 0 ≤ p ∧ p ≤ 1 := ⟨u2, v2⟩
      refine pm_if_ne (tgt := 24) dX12_odds_17 (by decide) (fun c_17 => ?_) (fun c_17 => absurd c_17 (by decide))
      refine pm_aload_n dX12_odds_24 rfl rfl ?_
      refine pm_get fl_RX12_137_12 dX12_odds_25 rfl rfl ?_
      refine pm_bipush (v := 6) dX12_odds_28 (by decide) ?_
      refine pm_icmp_le (tgt := 37) dX12_odds_30 (by decide) (fun c_30 => ?_) (fun c_30 => ?_)
      · refine pm_lconst (v := 0) dX12_odds_37 (by decide) ?_
        refine pm_lstore (lv2 := [(4, _), (0, _), (1, _), (2, _), (3, _)]) dX12_odds_38 (Nat.le_of_ble_eq_true rfl) rfl ?_
        refine pm_lconst (v := 0) dX12_odds_40 (by decide) ?_
        refine pm_lstore (lv2 := [(6, _), (4, _), (0, _), (1, _), (2, _), (3, _)]) dX12_odds_41 (Nat.le_of_ble_eq_true rfl) rfl ?_
        refine pm_iconst (v := 0) dX12_odds_43 (by decide) ?_
        refine pm_istore (lv2 := [(8, _), (6, _), (4, _), (0, _), (1, _), (2, _), (3, _)]) dX12_odds_44 (Nat.le_of_ble_eq_true rfl) rfl ?_
        have h6 : S 11 ≤ 6 := (nI_leI (b := 6) (by omega) (by decide)).mp c_30
        refine f_X12_odds (i := i) (j := j) hI hi hj h6 ?_ 0 (Nat.zero_le _)
        refine th_rl ?_ hQ
        rw [th_oddsA, if_pos hcd, if_pos hcp, if_pos h6, th_n_nI (by omega), th_n_nI (by omega)]
      · refine pm_ldc2 kw_1276 dX12_odds_33 ?_
        refine pm_lret dX12_odds_36 rfl rfl rfl ?_
        have h6 : ¬ S 11 ≤ 6 := fun z => c_30 ((nI_leI (b := 6) (by omega) (by decide)).mpr z)
        refine th_rl ?_ hQ
        rw [th_oddsA, if_pos hcd, if_pos hcp, if_neg h6]
    · refine pm_if_ne (tgt := 24) dX12_odds_17 (by decide) (fun c_17 => absurd (rfl) c_17) (fun c_17 => ?_)
      refine pm_ldc2 kw_1257 dX12_odds_20 ?_
      refine pm_lret dX12_odds_23 rfl rfl rfl ?_
      refine th_rl ?_ hQ
      rw [th_oddsA, if_pos hcd, if_neg u]
  · refine pm_if_ne (tgt := 13) dX12_odds_6 (by decide) (fun c_6 => absurd (rfl) c_6) (fun c_6 => ?_)
    refine pm_ldc2 kw_1256 dX12_odds_9 ?_
    refine pm_lret dX12_odds_12 rfl rfl rfl ?_
    refine th_rl ?_ hQ
    rw [th_oddsA, if_neg (fun z => hn ⟨(th_is_iff (by omega)).mp z.1, (th_is_iff (by omega)).mp z.2.1, z.2.2⟩)]

set_option maxHeartbeats 600000 in
set_option maxRecDepth 100000 in
theorem f_X12_likely {l : Launch} {G : pm_G} {ad : Nat → Nat → Nat} {a0 a3 a4 a5 a6 a7 : List pm_A} {a1 a2 : Nat → Option pm_A} {S : Nat → Nat} {A : Nat → Nat → Int32} {s : Nat → Int32} {B : Nat → Nat → Int32} {hs : Int64} {Q : pm_T} {i : Nat} {g p : Int32} (hI : th_I S A) (hi : i < S 11) (h6 : S 11 ≤ 6) (hQ : Q ad (some (.long (th_trm (th_ku S A i g (3 ^ S 11)) (th_kl S A (3 ^ S 11)) p))) (a0, a1, a2, a3, a4, a5, a6, a7, th_mp ad S A s B hs)) : ∀ c, c ≤ 3 ^ S 11 → pm_W l G m_X12_likely ad 57 [(8, .int (nI c)), (6, .long (lN (th_kl S A c))), (4, .long (lN (th_ku S A i g c))), (0, .ref (ad 8 0)), (1, .int (nI i)), (2, .int g), (3, .int p)] [] (a0, a1, a2, a3, a4, a5, a6, a7, th_mp ad S A s B hs) 0 0 Q := by
  have h8 := hI.2.2.2.2.1.1
  have h10 := hI.2.2.2.2.2.1.1
  have hpn := th_p36 h6
  refine th_loop _ ?_
  intro c hc k
  refine pm_iload dX12_likely_57 rfl ?_
  refine pm_iconst (v := 3) dX12_likely_59 (by decide) ?_
  refine pm_aload_n dX12_likely_60 rfl rfl ?_
  refine pm_get fl_RX12_137_12 dX12_likely_61 rfl rfl ?_
  refine pm_callS (M2 := m_X12_power) (As := [_, _]) ok_X12_power kw_1277 kw_1278 dX12_likely_64 rfl rfl (Nat.le_of_ble_eq_true rfl) ⟨⟨Nat.le_of_ble_eq_true rfl, Nat.le_of_ble_eq_true rfl⟩, Nat.le_of_ble_eq_true rfl, Nat.le_of_ble_eq_true rfl⟩ ?_
  refine c_X12_power (by omega) ?_
  rw [th_pi3 _ (by omega)]
  refine pm_icmp_ge (tgt := 112) dX12_likely_67 (by decide) (fun c_67 => ?_) (fun c_67 => ?_)
  · have he : c = 3 ^ S 11 := by
      rw [nI_leI (by omega) (by omega)] at c_67
      omega
    subst he
    refine pm_lload dX12_likely_112 rfl ?_
    refine pm_lload dX12_likely_114 rfl ?_
    refine pm_iload_n dX12_likely_116 rfl rfl ?_
    refine pm_callS (M2 := m_X12_term) (As := [_, _, _]) ok_X12_term kw_1288 kw_1289 dX12_likely_117 rfl rfl (Nat.le_of_ble_eq_true rfl) ⟨⟨Nat.le_of_ble_eq_true rfl, Nat.le_of_ble_eq_true rfl⟩, Nat.le_of_ble_eq_true rfl, Nat.le_of_ble_eq_true rfl⟩ ?_
    refine c_X12_term (th_ku_bd h10 hpn.2) (th_kl_bd h10 hpn.2).2 (by have := (th_kl_bd (A := A) h10 hpn.2).1; omega) ?_
    refine pm_lret dX12_likely_120 rfl rfl rfl ?_
    exact hQ
  · have hlt : c < 3 ^ S 11 := by
      rw [nI_leI (by omega) (by omega)] at c_67
      omega
    refine pm_aload_n dX12_likely_70 rfl rfl ?_
    refine pm_iload dX12_likely_71 rfl ?_
    refine pm_callV (M2 := m_X12_likelyOf) (As := [_]) ok_X12_likelyOf (ci := 12) rfl kw_1280 kw_1282 kw_37 dX12_likely_73 rfl rfl rfl (Nat.le_of_ble_eq_true rfl) ⟨⟨Nat.le_of_ble_eq_true rfl, Nat.le_of_ble_eq_true rfl⟩, Nat.le_of_ble_eq_true rfl, Nat.le_of_ble_eq_true rfl⟩ ?_
    refine c_X12_likelyOf hI (by omega) ?_
    refine pm_lstore (lv2 := [(9, _), (8, _), (6, _), (4, _), (0, _), (1, _), (2, _), (3, _)]) dX12_likely_76 (Nat.le_of_ble_eq_true rfl) rfl ?_
    refine pm_lload dX12_likely_78 rfl ?_
    refine pm_iload dX12_likely_80 rfl ?_
    refine pm_iload_n dX12_likely_82 rfl rfl ?_
    refine pm_callS (M2 := m_X12_softOf) (As := [_, _]) ok_X12_softOf kw_1284 kw_1285 dX12_likely_83 rfl rfl (Nat.le_of_ble_eq_true rfl) ⟨⟨Nat.le_of_ble_eq_true rfl, Nat.le_of_ble_eq_true rfl⟩, Nat.le_of_ble_eq_true rfl, Nat.le_of_ble_eq_true rfl⟩ ?_
    refine c_X12_softOf (by omega) (by omega) ?_
    rw [show c / 3 ^ i % 3 + 1 = th_gr c i from rfl]
    refine pm_iload_n dX12_likely_86 rfl rfl ?_
    refine pm_icmp_ne (tgt := 95) dX12_likely_87 (by decide) (fun c_87 => ?_) (fun c_87 => ?_)
    · refine pm_lconst (v := 0) dX12_likely_95 (by decide) ?_
      refine pm_ladd dX12_likely_96 ?_
      rw [show lN (th_ku S A i g c) + 0 = lN (th_ku S A i g (c + 1)) from by
        rw [show th_ku S A i g (c + 1) = th_ku S A i g c + (if nI (th_gr c i) = g then th_lw A c (S 26) else 0) from rfl, if_neg c_87, ← lN_add]
        rfl]
      refine pm_lstore (lv2 := [(4, _), (9, _), (8, _), (6, _), (0, _), (1, _), (2, _), (3, _)]) dX12_likely_97 (Nat.le_of_ble_eq_true rfl) rfl ?_
      refine pm_lload dX12_likely_99 rfl ?_
      refine pm_lload dX12_likely_101 rfl ?_
      refine pm_ladd dX12_likely_103 ?_
      rw [lN_add, show th_kl S A c + th_lw A c (S 26) = th_kl S A (c + 1) from rfl]
      refine pm_lstore (lv2 := [(6, _), (4, _), (9, _), (8, _), (0, _), (1, _), (2, _), (3, _)]) dX12_likely_104 (Nat.le_of_ble_eq_true rfl) rfl ?_
      refine pm_iinc (lv2 := [(8, _), (6, _), (4, _), (9, _), (0, _), (1, _), (2, _), (3, _)]) dX12_likely_106 rfl (nI_1 c) (Nat.le_of_ble_eq_true rfl) rfl ?_
      refine pm_goto (tgt := 57) dX12_likely_109 (by decide) ?_
      refine pm_pick [0, 1, 2, 4, 5, 6, 7] rfl ?_
      exact k hlt
    · refine pm_lload dX12_likely_90 rfl ?_
      refine pm_goto (tgt := 96) dX12_likely_92 (by decide) ?_
      refine pm_ladd dX12_likely_96 ?_
      rw [show lN (th_ku S A i g c) + lN (th_lw A c (S 26)) = lN (th_ku S A i g (c + 1)) from by
        rw [show th_ku S A i g (c + 1) = th_ku S A i g c + (if nI (th_gr c i) = g then th_lw A c (S 26) else 0) from rfl, if_pos c_87, ← lN_add]]
      refine pm_lstore (lv2 := [(4, _), (9, _), (8, _), (6, _), (0, _), (1, _), (2, _), (3, _)]) dX12_likely_97 (Nat.le_of_ble_eq_true rfl) rfl ?_
      refine pm_lload dX12_likely_99 rfl ?_
      refine pm_lload dX12_likely_101 rfl ?_
      refine pm_ladd dX12_likely_103 ?_
      rw [lN_add, show th_kl S A c + th_lw A c (S 26) = th_kl S A (c + 1) from rfl]
      refine pm_lstore (lv2 := [(6, _), (4, _), (9, _), (8, _), (0, _), (1, _), (2, _), (3, _)]) dX12_likely_104 (Nat.le_of_ble_eq_true rfl) rfl ?_
      refine pm_iinc (lv2 := [(8, _), (6, _), (4, _), (9, _), (0, _), (1, _), (2, _), (3, _)]) dX12_likely_106 rfl (nI_1 c) (Nat.le_of_ble_eq_true rfl) rfl ?_
      refine pm_goto (tgt := 57) dX12_likely_109 (by decide) ?_
      refine pm_pick [0, 1, 2, 4, 5, 6, 7] rfl ?_
      exact k hlt

set_option maxHeartbeats 600000 in
set_option maxRecDepth 100000 in
theorem c_X12_likely {l : Launch} {G : pm_G} {ad : Nat → Nat → Nat} {a0 a3 a4 a5 a6 a7 : List pm_A} {a1 a2 : Nat → Option pm_A} {S : Nat → Nat} {A : Nat → Nat → Int32} {s : Nat → Int32} {B : Nat → Nat → Int32} {hs : Int64} {Q : pm_T} {x g p : Int32} (hI : th_I S A) (hQ : Q ad (some (.long (th_likelyA S A x g p))) (a0, a1, a2, a3, a4, a5, a6, a7, th_mp ad S A s B hs)) : pm_C l G m_X12_likely [.ref (ad 8 0), .int x, .int g, .int p] ad (a0, a1, a2, a3, a4, a5, a6, a7, th_mp ad S A s B hs) Q := by
  have h8 := hI.2.2.2.2.1.1
  have h10 := hI.2.2.2.2.2.1.1
  refine pm_met (by decide) (Nat.le_of_ble_eq_true rfl) ?_
  refine pm_aload_n dX12_likely_0 rfl rfl ?_
  refine pm_iload_n dX12_likely_1 rfl rfl ?_
  refine pm_callV (M2 := m_X12_isNut) (As := [_]) ok_X12_isNut (ci := 12) rfl kw_1154 kw_1156 kw_24 dX12_likely_2 rfl rfl rfl (Nat.le_of_ble_eq_true rfl) ⟨⟨Nat.le_of_ble_eq_true rfl, Nat.le_of_ble_eq_true rfl⟩, Nat.le_of_ble_eq_true rfl, Nat.le_of_ble_eq_true rfl⟩ ?_
  refine c_X12_isNut h8 (fun i hi e => ?_) (fun hn => ?_)
  · subst e
    refine pm_if_ne (tgt := 12) dX12_likely_5 (by decide) (fun c_5 => ?_) (fun c_5 => absurd c_5 (by decide))
    refine pm_iload_n dX12_likely_12 rfl rfl ?_
    refine pm_i2l dX12_likely_13 ?_
    refine pm_lconst (v := 1) dX12_likely_14 (by decide) ?_
    refine pm_ldc2 kw_1142 dX12_likely_15 ?_
    refine pm_callS (M2 := m_X12_in) (As := [_, _, _]) ok_X12_in kw_1115 kw_1116 dX12_likely_18 rfl rfl (Nat.le_of_ble_eq_true rfl) ⟨⟨Nat.le_of_ble_eq_true rfl, Nat.le_of_ble_eq_true rfl⟩, Nat.le_of_ble_eq_true rfl, Nat.le_of_ble_eq_true rfl⟩ ?_
    refine c_X12_in32 (lo := 1) (hi := 3) rfl rfl (fun u v => ?_) (fun u => ?_)
    · refine pm_if_eq (tgt := 31) dX12_likely_21 (by decide) (fun c_21 => absurd c_21 (by decide)) (fun c_21 => ?_)
      refine pm_iload_n dX12_likely_24 rfl rfl ?_
      refine pm_callS (M2 := m_X12_isPart) (As := [_]) ok_X12_isPart kw_1273 kw_1274 dX12_likely_25 rfl rfl (Nat.le_of_ble_eq_true rfl) ⟨⟨Nat.le_of_ble_eq_true rfl, Nat.le_of_ble_eq_true rfl⟩, Nat.le_of_ble_eq_true rfl, Nat.le_of_ble_eq_true rfl⟩ ?_
      refine c_X12_isPart (fun u2 v2 => ?_) (fun u => ?_)
      · have hcd : (1 ≤ g ∧ g ≤ 3) ∧ (0 ≤ p ∧ p ≤ 1) := ⟨⟨u, v⟩, u2, v2⟩
        refine pm_if_ne (tgt := 35) dX12_likely_28 (by decide) (fun c_28 => ?_) (fun c_28 => absurd c_28 (by decide))
        refine pm_aload_n dX12_likely_35 rfl rfl ?_
        refine pm_get fl_RX12_137_12 dX12_likely_36 rfl rfl ?_
        refine pm_bipush (v := 6) dX12_likely_39 (by decide) ?_
        refine pm_icmp_le (tgt := 48) dX12_likely_41 (by decide) (fun c_41 => ?_) (fun c_41 => ?_)
        · refine pm_lconst (v := 0) dX12_likely_48 (by decide) ?_
          refine pm_lstore (lv2 := [(4, _), (0, _), (1, _), (2, _), (3, _)]) dX12_likely_49 (Nat.le_of_ble_eq_true rfl) rfl ?_
          refine pm_lconst (v := 0) dX12_likely_51 (by decide) ?_
          refine pm_lstore (lv2 := [(6, _), (4, _), (0, _), (1, _), (2, _), (3, _)]) dX12_likely_52 (Nat.le_of_ble_eq_true rfl) rfl ?_
          refine pm_iconst (v := 0) dX12_likely_54 (by decide) ?_
          refine pm_istore (lv2 := [(8, _), (6, _), (4, _), (0, _), (1, _), (2, _), (3, _)]) dX12_likely_55 (Nat.le_of_ble_eq_true rfl) rfl ?_
          have h6 : S 11 ≤ 6 := (nI_leI (b := 6) (by omega) (by decide)).mp c_41
          refine f_X12_likely (i := i) hI hi h6 ?_ 0 (Nat.zero_le _)
          refine th_rl ?_ hQ
          rw [th_likelyA, if_pos (th_okt hi (by omega)), if_pos hcd, if_pos h6, th_n_nI (by omega)]
        · refine pm_ldc2 kw_1276 dX12_likely_44 ?_
          refine pm_lret dX12_likely_47 rfl rfl rfl ?_
          have h6 : ¬ S 11 ≤ 6 := fun z => c_41 ((nI_leI (b := 6) (by omega) (by decide)).mpr z)
          refine th_rl ?_ hQ
          rw [th_likelyA, if_pos (th_okt hi (by omega)), if_pos hcd, if_neg h6]
      · refine pm_if_ne (tgt := 35) dX12_likely_28 (by decide) (fun c_28 => absurd (rfl) c_28) (fun c_28 => ?_)
        refine pm_ldc2 kw_1257 dX12_likely_31 ?_
        refine pm_lret dX12_likely_34 rfl rfl rfl ?_
        refine th_rl ?_ hQ
        rw [th_likelyA, if_pos (th_okt hi (by omega)), if_neg (fun z => u z.2)]
    · refine pm_if_eq (tgt := 31) dX12_likely_21 (by decide) (fun c_21 => ?_) (fun c_21 => absurd (rfl) c_21)
      refine pm_ldc2 kw_1257 dX12_likely_31 ?_
      refine pm_lret dX12_likely_34 rfl rfl rfl ?_
      refine th_rl ?_ hQ
      rw [th_likelyA, if_pos (th_okt hi (by omega)), if_neg (fun z => u z.1)]
  · refine pm_if_ne (tgt := 12) dX12_likely_5 (by decide) (fun c_5 => absurd (rfl) c_5) (fun c_5 => ?_)
    refine pm_ldc2 kw_1256 dX12_likely_8 ?_
    refine pm_lret dX12_likely_11 rfl rfl rfl ?_
    refine th_rl ?_ hQ
    rw [th_likelyA, if_neg (th_okf hn (by omega))]

set_option maxHeartbeats 600000 in
set_option maxRecDepth 100000 in
theorem c_X3_grade {l : Launch} {G : pm_G} {ad : Nat → Nat → Nat} {S : Nat → Nat} {A : Nat → Nat → Int32} {X : Nat → Int32} {Y : Nat → Nat → Int32} {F : Nat → Int64} {Hd Cs : Nat → Option Nat} {m : List pm_A} {Q : pm_T} {c : Nat} {t0 : Nat → Int32} (hc : c < 729) (hQ : ∀ t, (∀ q, q < 8 → t q = nI (th_gr c q)) → Q ad none (th_cw ad S A X (va_up Y 5 t) F Hd Cs m)) : pm_C l G m_X3_grade [.ref (ad 4 0), .int (nI c)] ad (th_cw ad S A X (va_up Y 5 t0) F Hd Cs m) Q := by
  refine pm_met (by decide) (Nat.le_of_ble_eq_true rfl) ?_
  refine pm_iload_n dX3_grade_0 rfl rfl ?_
  refine pm_istore_n (lv2 := [(2, _), (0, _), (1, _)]) dX3_grade_1 rfl (Nat.le_of_ble_eq_true rfl) rfl ?_
  refine pm_iconst (v := 0) dX3_grade_2 (by decide) ?_
  refine pm_istore_n (lv2 := [(3, _), (2, _), (0, _), (1, _)]) dX3_grade_3 rfl (Nat.le_of_ble_eq_true rfl) rfl ?_
  suffices H : ∀ i, i ≤ 8 → ∀ t : Nat → Int32, (∀ q, q < i → t q = nI (th_gr c q)) → pm_W l G m_X3_grade ad 4 [(3, .int (nI i)), (2, .int (nI (c / 3 ^ i))), (0, .ref (ad 4 0)), (1, .int (nI c))] [] (th_cw ad S A X (va_up Y 5 t) F Hd Cs m) 0 0 Q from by
    have h := H 0 (by decide) t0 (fun q hq => absurd hq (by omega))
    rw [Nat.pow_zero, Nat.div_one] at h
    exact h
  refine th_loop _ ?_
  intro i hi k t ht
  have hci : c / 3 ^ i < 729 := Nat.lt_of_le_of_lt (Nat.div_le_self _ _) hc
  refine pm_iload_n dX3_grade_4 rfl rfl ?_
  refine pm_aload_n dX3_grade_5 rfl rfl ?_
  refine pm_get fl_RX3_21_3 dX3_grade_6 rfl rfl ?_
  refine pm_alen (by decide) dX3_grade_9 rfl ?_
  show pm_W _ _ _ _ _ _ (.int (nI 8) :: _) _ _ _ _
  refine pm_icmp_ge (tgt := 34) dX3_grade_10 (by decide) (fun c_10 => ?_) (fun c_10 => ?_)
  · refine pm_vret dX3_grade_34 rfl rfl rfl ?_
    have he : i = 8 := by
      rw [nI_leI (by decide) (by omega)] at c_10
      omega
    subst he
    exact hQ t ht
  · have hlt : i < 8 := by
      rw [nI_leI (by decide) (by omega)] at c_10
      omega
    refine pm_aload_n dX3_grade_13 rfl rfl ?_
    refine pm_get fl_RX3_21_3 dX3_grade_14 rfl rfl ?_
    refine pm_iload_n dX3_grade_17 rfl rfl ?_
    refine pm_iconst (v := 1) dX3_grade_18 (by decide) ?_
    refine pm_iload_n dX3_grade_19 rfl rfl ?_
    refine pm_iconst (v := 3) dX3_grade_20 (by decide) ?_
    refine pm_irem dX3_grade_21 (by decide) ?_
    rw [show nI (c / 3 ^ i) - nI (c / 3 ^ i) / 3 * 3 = nI (c / 3 ^ i % 3) from pk_rem (d := 3) (by omega) (by decide) (by decide)]
    refine pm_iadd dX3_grade_22 ?_
    rw [show (1 : Int32) + nI (c / 3 ^ i % 3) = nI (th_gr c i) from by rw [Int32.add_comm, nI_1]; rfl]
    refine pm_iast (w2 := (_, _, _, _, [_, _, _, _, _], _, _, _, _)) dX3_grade_23 rfl (th_in hlt (by decide)) rfl ?_
    rw [th_cl (by omega)]
    refine pm_iload_n dX3_grade_24 rfl rfl ?_
    refine pm_iconst (v := 3) dX3_grade_25 (by decide) ?_
    refine pm_idiv dX3_grade_26 (by decide) ?_
    rw [show nI (c / 3 ^ i) / 3 = nI (c / 3 ^ i / 3) from pk_div (d := 3) (by omega) (by decide) (by decide), Nat.div_div_eq_div_mul, ← Nat.pow_succ]
    refine pm_istore_n (lv2 := [(2, _), (3, _), (0, _), (1, _)]) dX3_grade_27 rfl (Nat.le_of_ble_eq_true rfl) rfl ?_
    refine pm_iinc (lv2 := [(3, _), (2, _), (0, _), (1, _)]) dX3_grade_28 rfl (nI_1 i) (Nat.le_of_ble_eq_true rfl) rfl ?_
    refine pm_goto (tgt := 4) dX3_grade_31 (by decide) ?_
    refine pm_pick [0, 1, 2, 3] rfl ?_
    refine k hlt (upd t i (nI (th_gr c i))) ?_
    intro q hq
    by_cases e : q = i
    · rw [upd, if_pos e, e]
    · rw [upd, if_neg e]
      exact ht q (by omega)

set_option maxHeartbeats 600000 in
set_option maxRecDepth 100000 in
theorem c_X3_weightOfGrades {l : Launch} {G : pm_G} {ad : Nat → Nat → Nat} {S : Nat → Nat} {A : Nat → Nat → Int32} {X : Nat → Int32} {Y : Nat → Nat → Int32} {F : Nat → Int64} {Hd Cs : Nat → Option Nat} {m : List pm_A} {Q : pm_T} {c : Nat} {t : Nat → Int32} (hI : th_I S A) (hT : th_T S A Y) (ht : ∀ q, q < 8 → t q = nI (th_gr c q)) (hQ : Q ad (some (.long (lN (th_lw A c (S 26))))) (th_cw ad S A X (va_up Y 5 t) F Hd Cs m)) : pm_C l G m_X3_weightOfGrades [.ref (ad 4 0)] ad (th_cw ad S A X (va_up Y 5 t) F Hd Cs m) Q := by
  have h8 := hI.2.2.2.2.1.1
  have h10 := hI.2.2.2.2.2.1.1
  refine pm_met (by decide) (Nat.le_of_ble_eq_true rfl) ?_
  refine pm_lconst (v := 1) dX3_weightOfGrades_0 (by decide) ?_
  refine pm_lstore_n (lv2 := [(1, _), (0, _)]) dX3_weightOfGrades_1 rfl (Nat.le_of_ble_eq_true rfl) rfl ?_
  refine pm_iconst (v := 0) dX3_weightOfGrades_2 (by decide) ?_
  refine pm_istore_n (lv2 := [(3, _), (1, _), (0, _)]) dX3_weightOfGrades_3 rfl (Nat.le_of_ble_eq_true rfl) rfl ?_
  suffices H : ∀ f, f ≤ S 26 → pm_W l G m_X3_weightOfGrades ad 4 [(3, .int (nI f)), (1, .long (lN (th_lw A c f))), (0, .ref (ad 4 0))] [] (th_cw ad S A X (va_up Y 5 t) F Hd Cs m) 0 0 Q from H 0 (Nat.zero_le _)
  refine th_loop _ ?_
  intro f hf k
  refine pm_iload_n dX3_weightOfGrades_4 rfl rfl ?_
  refine pm_aload_n dX3_weightOfGrades_5 rfl rfl ?_
  refine pm_get fl_RX3_24_3 dX3_weightOfGrades_6 rfl rfl ?_
  refine pm_icmp_ge (tgt := 47) dX3_weightOfGrades_9 (by decide) (fun c_9 => ?_) (fun c_9 => ?_)
  · refine pm_lload_n dX3_weightOfGrades_47 rfl rfl ?_
    refine pm_lret dX3_weightOfGrades_48 rfl rfl rfl ?_
    have he : f = S 26 := by
      rw [nI_leI (by omega) (by omega)] at c_9
      omega
    subst he
    exact hQ
  · have hlt : f < S 26 := by
      rw [nI_leI (by omega) (by omega)] at c_9
      omega
    obtain ⟨a, b, ha, hb, hne, ea, eb⟩ := hI.2.2.2.2.2.1.2 f hlt
    have eya : Y 2 f = nI a := (hT f hlt).1.trans ea
    have eyb : Y 3 f = nI b := (hT f hlt).2.trans eb
    have hst : th_lw A c (f + 1) = th_lw A c f * th_fc c a b := by rw [th_lw, ea, eb, th_n_nI (by omega), th_n_nI (by omega)]
    refine pm_lload_n dX3_weightOfGrades_12 rfl rfl ?_
    refine pm_iconst (v := 5) dX3_weightOfGrades_13 (by decide) ?_
    refine pm_aload_n dX3_weightOfGrades_14 rfl rfl ?_
    refine pm_get fl_RX3_21_3 dX3_weightOfGrades_15 rfl rfl ?_
    refine pm_aload_n dX3_weightOfGrades_18 rfl rfl ?_
    refine pm_get fl_RX3_9_3 dX3_weightOfGrades_19 rfl rfl ?_
    refine pm_iload_n dX3_weightOfGrades_22 rfl rfl ?_
    refine pm_iald dX3_weightOfGrades_23 rfl (th_in (by omega) (by decide)) ?_
    rw [th_cl (by omega)]
    show pm_W _ _ _ _ _ _ (.int (Y 2 f) :: _) _ _ _ _
    rw [eya]
    refine pm_iald dX3_weightOfGrades_24 rfl (th_in (by omega) (by decide)) ?_
    rw [th_cl (by omega)]
    show pm_W _ _ _ _ _ _ (.int (t a) :: _) _ _ _ _
    rw [ht a (by omega)]
    refine pm_iadd dX3_weightOfGrades_25 ?_
    refine pm_aload_n dX3_weightOfGrades_26 rfl rfl ?_
    refine pm_get fl_RX3_21_3 dX3_weightOfGrades_27 rfl rfl ?_
    refine pm_aload_n dX3_weightOfGrades_30 rfl rfl ?_
    refine pm_get fl_RX3_15_3 dX3_weightOfGrades_31 rfl rfl ?_
    refine pm_iload_n dX3_weightOfGrades_34 rfl rfl ?_
    refine pm_iald dX3_weightOfGrades_35 rfl (th_in (by omega) (by decide)) ?_
    rw [th_cl (by omega)]
    show pm_W _ _ _ _ _ _ (.int (Y 3 f) :: _) _ _ _ _
    rw [eyb]
    refine pm_iald dX3_weightOfGrades_36 rfl (th_in (by omega) (by decide)) ?_
    rw [th_cl (by omega)]
    show pm_W _ _ _ _ _ _ (.int (t b) :: _) _ _ _ _
    rw [ht b (by omega)]
    refine pm_isub dX3_weightOfGrades_37 ?_
    refine pm_i2l dX3_weightOfGrades_38 ?_
    rw [th_fcv]
    refine pm_lmul dX3_weightOfGrades_39 ?_
    rw [lN_mul, ← hst]
    refine pm_lstore_n (lv2 := [(1, _), (3, _), (0, _)]) dX3_weightOfGrades_40 rfl (Nat.le_of_ble_eq_true rfl) rfl ?_
    refine pm_iinc (lv2 := [(3, _), (1, _), (0, _)]) dX3_weightOfGrades_41 rfl (nI_1 f) (Nat.le_of_ble_eq_true rfl) rfl ?_
    refine pm_goto (tgt := 4) dX3_weightOfGrades_44 (by decide) ?_
    refine pm_pick [0, 1, 2] rfl ?_
    exact k hlt

set_option maxHeartbeats 600000 in
set_option maxRecDepth 100000 in
theorem c_X3_learntOdds {l : Launch} {G : pm_G} {ad : Nat → Nat → Nat} {S : Nat → Nat} {A : Nat → Nat → Int32} {X : Nat → Int32} {Y : Nat → Nat → Int32} {F : Nat → Int64} {Hd Cs : Nat → Option Nat} {m : List pm_A} {Q : pm_T} {i j ki kj : Nat} {p : Int32} (hI : th_I S A) (hT : th_T S A Y) (hi : i < S 11) (hj : j < S 11) (h6 : S 11 ≤ 6) (hwi : th_g2 ad S A Y i = some (.inr (pm_kc ki, th_nf ad A Y i))) (hwj : th_g2 ad S A Y j = some (.inr (pm_kc kj, th_nf ad A Y j))) (hQ : ∀ t, Q ad (some (.long (th_trm (th_ou S A i j (3 ^ S 11)) (th_ol S A (3 ^ S 11)) p))) (th_cw ad S A X (va_up Y 5 t) F Hd Cs m)) : pm_C l G m_X3_learntOdds [.ref (ad 4 0), .ref (ad 2 i), .ref (ad 2 j), .int (nI (S 11)), .int p] ad (th_cw ad S A X Y F Hd Cs m) Q := by
  have h8 := hI.2.2.2.2.1.1
  have h10 := hI.2.2.2.2.2.1.1
  have hpn := th_p36 h6
  refine pm_met (by decide) (Nat.le_of_ble_eq_true rfl) ?_
  refine pm_lconst (v := 0) dX3_learntOdds_0 (by decide) ?_
  refine pm_lstore (lv2 := [(5, _), (0, _), (1, _), (2, _), (3, _), (4, _)]) dX3_learntOdds_1 (Nat.le_of_ble_eq_true rfl) rfl ?_
  refine pm_lconst (v := 0) dX3_learntOdds_3 (by decide) ?_
  refine pm_lstore (lv2 := [(7, _), (5, _), (0, _), (1, _), (2, _), (3, _), (4, _)]) dX3_learntOdds_4 (Nat.le_of_ble_eq_true rfl) rfl ?_
  refine pm_ldc2 kw_773 dX3_learntOdds_6 ?_
  refine pm_iload_n dX3_learntOdds_9 rfl rfl ?_
  refine pm_callSN (M2 := m_X11_power) (As := [_, _]) ok_X11_power kw_774 kw_775 dX3_learntOdds_10 rfl rfl (Nat.le_of_ble_eq_true rfl) ⟨⟨Nat.le_of_ble_eq_true rfl, Nat.le_of_ble_eq_true rfl⟩, Nat.le_of_ble_eq_true rfl, Nat.le_of_ble_eq_true rfl⟩ ?_
  refine c_X11_power (b := lN 3) (by omega) ?_
  rw [th_pwN]
  refine pm_lstore (lv2 := [(9, _), (7, _), (5, _), (0, _), (1, _), (2, _), (3, _), (4, _)]) dX3_learntOdds_13 (Nat.le_of_ble_eq_true rfl) rfl ?_
  refine pm_iconst (v := 0) dX3_learntOdds_15 (by decide) ?_
  refine pm_istore (lv2 := [(11, _), (9, _), (7, _), (5, _), (0, _), (1, _), (2, _), (3, _), (4, _)]) dX3_learntOdds_16 (Nat.le_of_ble_eq_true rfl) rfl ?_
  suffices H : ∀ c, c ≤ 3 ^ S 11 → ∀ t, pm_W l G m_X3_learntOdds ad 18 [(11, .int (nI c)), (9, .long (lN (3 ^ S 11))), (7, .long (lN (th_ol S A c))), (5, .long (lN (th_ou S A i j c))), (0, .ref (ad 4 0)), (1, .ref (ad 2 i)), (2, .ref (ad 2 j)), (3, .int (nI (S 11))), (4, .int p)] [] (th_cw ad S A X (va_up Y 5 t) F Hd Cs m) 0 0 Q from H 0 (Nat.zero_le _) (Y 5)
  refine th_loop _ ?_
  intro c hc k t
  refine pm_iload dX3_learntOdds_18 rfl ?_
  refine pm_i2l dX3_learntOdds_20 ?_
  rw [nI_l (by omega)]
  refine pm_lload dX3_learntOdds_21 rfl ?_
  refine pm_lcmp dX3_learntOdds_23 ?_
  refine pm_if_ge (tgt := 86) dX3_learntOdds_24 (by decide) (fun c_24 => ?_) (fun c_24 => ?_)
  · have he : c = 3 ^ S 11 := by
      rw [th_ge, lN_lt (by omega) (by omega)] at c_24
      omega
    subst he
    refine pm_lload dX3_learntOdds_86 rfl ?_
    refine pm_lload dX3_learntOdds_88 rfl ?_
    refine pm_iload dX3_learntOdds_90 rfl ?_
    refine pm_callSN (M2 := m_X11_inLowestTerms) (As := [_, _, _]) ok_X11_inLowestTerms kw_786 kw_787 dX3_learntOdds_92 rfl rfl (Nat.le_of_ble_eq_true rfl) ⟨⟨Nat.le_of_ble_eq_true rfl, Nat.le_of_ble_eq_true rfl⟩, Nat.le_of_ble_eq_true rfl, Nat.le_of_ble_eq_true rfl⟩ ?_
    refine c_X11_inLowestTerms (th_ou_bd h10 hpn.2) (th_ol_bd h10 hpn.2).2 (by have := (th_ol_bd (A := A) h10 hpn.2).1; omega) ?_
    refine pm_lret dX3_learntOdds_95 rfl rfl rfl ?_
    exact hQ t
  · have hlt : c < 3 ^ S 11 := by
      rw [th_ge, Decidable.not_not, lN_lt (by omega) (by omega)] at c_24
      exact c_24
    refine pm_aload_n dX3_learntOdds_27 rfl rfl ?_
    refine pm_iload dX3_learntOdds_28 rfl ?_
    refine pm_callV (M2 := m_X3_grade) (As := [_]) ok_X3_grade (ci := 3) rfl kw_777 kw_779 kw_11 dX3_learntOdds_30 rfl rfl rfl (Nat.le_of_ble_eq_true rfl) ⟨⟨Nat.le_of_ble_eq_true rfl, Nat.le_of_ble_eq_true rfl⟩, Nat.le_of_ble_eq_true rfl, Nat.le_of_ble_eq_true rfl⟩ ?_
    refine c_X3_grade (by omega) (fun t ht => ?_)
    refine pm_aload_n dX3_learntOdds_33 rfl rfl ?_
    refine pm_callV (M2 := m_X3_weightOfGrades) (As := []) ok_X3_weightOfGrades (ci := 3) rfl kw_781 kw_783 kw_12 dX3_learntOdds_34 rfl rfl rfl (Nat.le_of_ble_eq_true rfl) ⟨⟨Nat.le_of_ble_eq_true rfl, Nat.le_of_ble_eq_true rfl⟩, Nat.le_of_ble_eq_true rfl, Nat.le_of_ble_eq_true rfl⟩ ?_
    refine c_X3_weightOfGrades hI hT ht ?_
    refine pm_lstore (lv2 := [(12, _), (11, _), (9, _), (7, _), (5, _), (0, _), (1, _), (2, _), (3, _), (4, _)]) dX3_learntOdds_37 (Nat.le_of_ble_eq_true rfl) rfl ?_
    refine pm_lload dX3_learntOdds_39 rfl ?_
    refine pm_lload dX3_learntOdds_41 rfl ?_
    refine pm_iconst (v := 5) dX3_learntOdds_43 (by decide) ?_
    refine pm_aload_n dX3_learntOdds_44 rfl rfl ?_
    refine pm_get fl_RX3_21_3 dX3_learntOdds_45 rfl rfl ?_
    refine pm_aload_n dX3_learntOdds_48 rfl rfl ?_
    refine pm_get (fn_RX3_28 _) dX3_learntOdds_49 (show pm_get? _ 2 i = _ from hwi) rfl ?_
    refine pm_iald dX3_learntOdds_52 rfl (th_in (by omega) (by decide)) ?_
    rw [th_cl (by omega)]
    show pm_W _ _ _ _ _ _ (.int (t i) :: _) _ _ _ _
    rw [ht i (by omega)]
    refine pm_iadd dX3_learntOdds_53 ?_
    refine pm_aload_n dX3_learntOdds_54 rfl rfl ?_
    refine pm_get fl_RX3_21_3 dX3_learntOdds_55 rfl rfl ?_
    refine pm_aload_n dX3_learntOdds_58 rfl rfl ?_
    refine pm_get (fn_RX3_28 _) dX3_learntOdds_59 (show pm_get? _ 2 j = _ from hwj) rfl ?_
    refine pm_iald dX3_learntOdds_62 rfl (th_in (by omega) (by decide)) ?_
    rw [th_cl (by omega)]
    show pm_W _ _ _ _ _ _ (.int (t j) :: _) _ _ _ _
    rw [ht j (by omega)]
    refine pm_isub dX3_learntOdds_63 ?_
    refine pm_i2l dX3_learntOdds_64 ?_
    rw [th_fcv]
    refine pm_lmul dX3_learntOdds_65 ?_
    refine pm_ladd dX3_learntOdds_66 ?_
    rw [lN_mul, lN_add, show th_ou S A i j c + th_lw A c (S 26) * th_fc c i j = th_ou S A i j (c + 1) from rfl]
    refine pm_lstore (lv2 := [(5, _), (12, _), (11, _), (9, _), (7, _), (0, _), (1, _), (2, _), (3, _), (4, _)]) dX3_learntOdds_67 (Nat.le_of_ble_eq_true rfl) rfl ?_
    refine pm_lload dX3_learntOdds_69 rfl ?_
    refine pm_lload dX3_learntOdds_71 rfl ?_
    refine pm_ldc2 kw_785 dX3_learntOdds_73 ?_
    refine pm_lmul dX3_learntOdds_76 ?_
    refine pm_ladd dX3_learntOdds_77 ?_
    rw [show lN (th_ol S A c) + lN (th_lw A c (S 26)) * 10 = lN (th_ol S A (c + 1)) from by
      rw [show (10 : Int64) = lN 10 from rfl, lN_mul, lN_add, Nat.mul_comm]; rfl]
    refine pm_lstore (lv2 := [(7, _), (5, _), (12, _), (11, _), (9, _), (0, _), (1, _), (2, _), (3, _), (4, _)]) dX3_learntOdds_78 (Nat.le_of_ble_eq_true rfl) rfl ?_
    refine pm_iinc (lv2 := [(11, _), (7, _), (5, _), (12, _), (9, _), (0, _), (1, _), (2, _), (3, _), (4, _)]) dX3_learntOdds_80 rfl (nI_1 c) (Nat.le_of_ble_eq_true rfl) rfl ?_
    refine pm_goto (tgt := 18) dX3_learntOdds_83 (by decide) ?_
    refine pm_pick [0, 4, 1, 2, 5, 6, 7, 8, 9] rfl ?_
    exact k hlt t

set_option maxHeartbeats 600000 in
set_option maxRecDepth 100000 in
theorem c_X3_learntGrade {l : Launch} {G : pm_G} {ad : Nat → Nat → Nat} {S : Nat → Nat} {A : Nat → Nat → Int32} {X : Nat → Int32} {Y : Nat → Nat → Int32} {F : Nat → Int64} {Hd Cs : Nat → Option Nat} {m : List pm_A} {Q : pm_T} {i ki : Nat} {g p : Int32} (hI : th_I S A) (hT : th_T S A Y) (hi : i < S 11) (h6 : S 11 ≤ 6) (hwi : th_g2 ad S A Y i = some (.inr (pm_kc ki, th_nf ad A Y i))) (hQ : ∀ t, Q ad (some (.long (th_trm (th_ku S A i g (3 ^ S 11)) (th_kl S A (3 ^ S 11)) p))) (th_cw ad S A X (va_up Y 5 t) F Hd Cs m)) : pm_C l G m_X3_learntGrade [.ref (ad 4 0), .ref (ad 2 i), .int g, .int (nI (S 11)), .int p] ad (th_cw ad S A X Y F Hd Cs m) Q := by
  have h8 := hI.2.2.2.2.1.1
  have h10 := hI.2.2.2.2.2.1.1
  have hpn := th_p36 h6
  refine pm_met (by decide) (Nat.le_of_ble_eq_true rfl) ?_
  refine pm_lconst (v := 0) dX3_learntGrade_0 (by decide) ?_
  refine pm_lstore (lv2 := [(5, _), (0, _), (1, _), (2, _), (3, _), (4, _)]) dX3_learntGrade_1 (Nat.le_of_ble_eq_true rfl) rfl ?_
  refine pm_lconst (v := 0) dX3_learntGrade_3 (by decide) ?_
  refine pm_lstore (lv2 := [(7, _), (5, _), (0, _), (1, _), (2, _), (3, _), (4, _)]) dX3_learntGrade_4 (Nat.le_of_ble_eq_true rfl) rfl ?_
  refine pm_ldc2 kw_773 dX3_learntGrade_6 ?_
  refine pm_iload_n dX3_learntGrade_9 rfl rfl ?_
  refine pm_callSN (M2 := m_X11_power) (As := [_, _]) ok_X11_power kw_774 kw_775 dX3_learntGrade_10 rfl rfl (Nat.le_of_ble_eq_true rfl) ⟨⟨Nat.le_of_ble_eq_true rfl, Nat.le_of_ble_eq_true rfl⟩, Nat.le_of_ble_eq_true rfl, Nat.le_of_ble_eq_true rfl⟩ ?_
  refine c_X11_power (b := lN 3) (by omega) ?_
  rw [th_pwN]
  refine pm_lstore (lv2 := [(9, _), (7, _), (5, _), (0, _), (1, _), (2, _), (3, _), (4, _)]) dX3_learntGrade_13 (Nat.le_of_ble_eq_true rfl) rfl ?_
  refine pm_iconst (v := 0) dX3_learntGrade_15 (by decide) ?_
  refine pm_istore (lv2 := [(11, _), (9, _), (7, _), (5, _), (0, _), (1, _), (2, _), (3, _), (4, _)]) dX3_learntGrade_16 (Nat.le_of_ble_eq_true rfl) rfl ?_
  suffices H : ∀ c, c ≤ 3 ^ S 11 → ∀ t, pm_W l G m_X3_learntGrade ad 18 [(11, .int (nI c)), (9, .long (lN (3 ^ S 11))), (7, .long (lN (th_kl S A c))), (5, .long (lN (th_ku S A i g c))), (0, .ref (ad 4 0)), (1, .ref (ad 2 i)), (2, .int g), (3, .int (nI (S 11))), (4, .int p)] [] (th_cw ad S A X (va_up Y 5 t) F Hd Cs m) 0 0 Q from H 0 (Nat.zero_le _) (Y 5)
  refine th_loop _ ?_
  intro c hc k t
  refine pm_iload dX3_learntGrade_18 rfl ?_
  refine pm_i2l dX3_learntGrade_20 ?_
  rw [nI_l (by omega)]
  refine pm_lload dX3_learntGrade_21 rfl ?_
  refine pm_lcmp dX3_learntGrade_23 ?_
  refine pm_if_ge (tgt := 76) dX3_learntGrade_24 (by decide) (fun c_24 => ?_) (fun c_24 => ?_)
  · have he : c = 3 ^ S 11 := by
      rw [th_ge, lN_lt (by omega) (by omega)] at c_24
      omega
    subst he
    refine pm_lload dX3_learntGrade_76 rfl ?_
    refine pm_lload dX3_learntGrade_78 rfl ?_
    refine pm_iload dX3_learntGrade_80 rfl ?_
    refine pm_callSN (M2 := m_X11_inLowestTerms) (As := [_, _, _]) ok_X11_inLowestTerms kw_786 kw_787 dX3_learntGrade_82 rfl rfl (Nat.le_of_ble_eq_true rfl) ⟨⟨Nat.le_of_ble_eq_true rfl, Nat.le_of_ble_eq_true rfl⟩, Nat.le_of_ble_eq_true rfl, Nat.le_of_ble_eq_true rfl⟩ ?_
    refine c_X11_inLowestTerms (th_ku_bd h10 hpn.2) (th_kl_bd h10 hpn.2).2 (by have := (th_kl_bd (A := A) h10 hpn.2).1; omega) ?_
    refine pm_lret dX3_learntGrade_85 rfl rfl rfl ?_
    exact hQ t
  · have hlt : c < 3 ^ S 11 := by
      rw [th_ge, Decidable.not_not, lN_lt (by omega) (by omega)] at c_24
      exact c_24
    refine pm_aload_n dX3_learntGrade_27 rfl rfl ?_
    refine pm_iload dX3_learntGrade_28 rfl ?_
    refine pm_callV (M2 := m_X3_grade) (As := [_]) ok_X3_grade (ci := 3) rfl kw_777 kw_779 kw_11 dX3_learntGrade_30 rfl rfl rfl (Nat.le_of_ble_eq_true rfl) ⟨⟨Nat.le_of_ble_eq_true rfl, Nat.le_of_ble_eq_true rfl⟩, Nat.le_of_ble_eq_true rfl, Nat.le_of_ble_eq_true rfl⟩ ?_
    refine c_X3_grade (by omega) (fun t ht => ?_)
    refine pm_aload_n dX3_learntGrade_33 rfl rfl ?_
    refine pm_callV (M2 := m_X3_weightOfGrades) (As := []) ok_X3_weightOfGrades (ci := 3) rfl kw_781 kw_783 kw_12 dX3_learntGrade_34 rfl rfl rfl (Nat.le_of_ble_eq_true rfl) ⟨⟨Nat.le_of_ble_eq_true rfl, Nat.le_of_ble_eq_true rfl⟩, Nat.le_of_ble_eq_true rfl, Nat.le_of_ble_eq_true rfl⟩ ?_
    refine c_X3_weightOfGrades hI hT ht ?_
    refine pm_lstore (lv2 := [(12, _), (11, _), (9, _), (7, _), (5, _), (0, _), (1, _), (2, _), (3, _), (4, _)]) dX3_learntGrade_37 (Nat.le_of_ble_eq_true rfl) rfl ?_
    refine pm_lload dX3_learntGrade_39 rfl ?_
    refine pm_aload_n dX3_learntGrade_41 rfl rfl ?_
    refine pm_get fl_RX3_21_3 dX3_learntGrade_42 rfl rfl ?_
    refine pm_aload_n dX3_learntGrade_45 rfl rfl ?_
    refine pm_get (fn_RX3_28 _) dX3_learntGrade_46 (show pm_get? _ 2 i = _ from hwi) rfl ?_
    refine pm_iald dX3_learntGrade_49 rfl (th_in (by omega) (by decide)) ?_
    rw [th_cl (by omega)]
    show pm_W _ _ _ _ _ _ (.int (t i) :: _) _ _ _ _
    rw [ht i (by omega)]
    refine pm_iload_n dX3_learntGrade_50 rfl rfl ?_
    refine pm_icmp_ne (tgt := 59) dX3_learntGrade_51 (by decide) (fun c_51 => ?_) (fun c_51 => ?_)
    · refine pm_lconst (v := 0) dX3_learntGrade_59 (by decide) ?_
      refine pm_ladd dX3_learntGrade_60 ?_
      rw [show lN (th_ku S A i g c) + 0 = lN (th_ku S A i g (c + 1)) from by
        rw [show th_ku S A i g (c + 1) = th_ku S A i g c + (if nI (th_gr c i) = g then th_lw A c (S 26) else 0) from rfl, if_neg c_51, ← lN_add]
        rfl]
      refine pm_lstore (lv2 := [(5, _), (12, _), (11, _), (9, _), (7, _), (0, _), (1, _), (2, _), (3, _), (4, _)]) dX3_learntGrade_61 (Nat.le_of_ble_eq_true rfl) rfl ?_
      refine pm_lload dX3_learntGrade_63 rfl ?_
      refine pm_lload dX3_learntGrade_65 rfl ?_
      refine pm_ladd dX3_learntGrade_67 ?_
      rw [lN_add, show th_kl S A c + th_lw A c (S 26) = th_kl S A (c + 1) from rfl]
      refine pm_lstore (lv2 := [(7, _), (5, _), (12, _), (11, _), (9, _), (0, _), (1, _), (2, _), (3, _), (4, _)]) dX3_learntGrade_68 (Nat.le_of_ble_eq_true rfl) rfl ?_
      refine pm_iinc (lv2 := [(11, _), (7, _), (5, _), (12, _), (9, _), (0, _), (1, _), (2, _), (3, _), (4, _)]) dX3_learntGrade_70 rfl (nI_1 c) (Nat.le_of_ble_eq_true rfl) rfl ?_
      refine pm_goto (tgt := 18) dX3_learntGrade_73 (by decide) ?_
      refine pm_pick [0, 4, 1, 2, 5, 6, 7, 8, 9] rfl ?_
      exact k hlt t
    · refine pm_lload dX3_learntGrade_54 rfl ?_
      refine pm_goto (tgt := 60) dX3_learntGrade_56 (by decide) ?_
      refine pm_ladd dX3_learntGrade_60 ?_
      rw [show lN (th_ku S A i g c) + lN (th_lw A c (S 26)) = lN (th_ku S A i g (c + 1)) from by
        rw [show th_ku S A i g (c + 1) = th_ku S A i g c + (if nI (th_gr c i) = g then th_lw A c (S 26) else 0) from rfl, if_pos c_51, ← lN_add]]
      refine pm_lstore (lv2 := [(5, _), (12, _), (11, _), (9, _), (7, _), (0, _), (1, _), (2, _), (3, _), (4, _)]) dX3_learntGrade_61 (Nat.le_of_ble_eq_true rfl) rfl ?_
      refine pm_lload dX3_learntGrade_63 rfl ?_
      refine pm_lload dX3_learntGrade_65 rfl ?_
      refine pm_ladd dX3_learntGrade_67 ?_
      rw [lN_add, show th_kl S A c + th_lw A c (S 26) = th_kl S A (c + 1) from rfl]
      refine pm_lstore (lv2 := [(7, _), (5, _), (12, _), (11, _), (9, _), (0, _), (1, _), (2, _), (3, _), (4, _)]) dX3_learntGrade_68 (Nat.le_of_ble_eq_true rfl) rfl ?_
      refine pm_iinc (lv2 := [(11, _), (7, _), (5, _), (12, _), (9, _), (0, _), (1, _), (2, _), (3, _), (4, _)]) dX3_learntGrade_70 rfl (nI_1 c) (Nat.le_of_ble_eq_true rfl) rfl ?_
      refine pm_goto (tgt := 18) dX3_learntGrade_73 (by decide) ?_
      refine pm_pick [0, 4, 1, 2, 5, 6, 7, 8, 9] rfl ?_
      exact k hlt t

set_option maxHeartbeats 600000 in
set_option maxRecDepth 100000 in
theorem c_X11_likely {l : Launch} {G : pm_G} {ad : Nat → Nat → Nat} {S : Nat → Nat} {A : Nat → Nat → Int32} {X : Nat → Int32} {Y : Nat → Nat → Int32} {F : Nat → Int64} {Hd Cs : Nat → Option Nat} {m : List pm_A} {Q : pm_T} {x g p : Int32} (hI : th_I S A) (hT : th_T S A Y) (hQ : ∀ t, Q ad (some (.long (th_likelyA S A x g p))) (th_cw ad S A X (va_up Y 5 t) F Hd Cs m)) : pm_C l G m_X11_likely [.ref (ad 0 0), .int x, .int g, .int p] ad (th_cw ad S A X Y F Hd Cs m) Q := by
  have h8 := hI.2.2.2.2.1.1
  have h10 := hI.2.2.2.2.2.1.1
  refine pm_met (by decide) (Nat.le_of_ble_eq_true rfl) ?_
  refine pm_aload_n dX11_likely_0 rfl rfl ?_
  refine pm_iload_n dX11_likely_1 rfl rfl ?_
  refine pm_callV (M2 := m_X11_nutOf) (As := [_]) ok_X11_nutOf (ci := 11) rfl kw_545 kw_547 kw_5 dX11_likely_2 rfl rfl rfl (Nat.le_of_ble_eq_true rfl) ⟨⟨Nat.le_of_ble_eq_true rfl, Nat.le_of_ble_eq_true rfl⟩, Nat.le_of_ble_eq_true rfl, Nat.le_of_ble_eq_true rfl⟩ ?_
  refine c_X11_nutOf h8 (fun i hi e => ?_) (fun hn => ?_)
  · subst e
    obtain ⟨⟨ki, hki, ei⟩, -⟩ := th_nk hI hi
    have hwi : th_g2 ad S A Y i = some (.inr (pm_kc (th_n (A 6 i)), th_nf ad A Y i)) := th_nt_get hi
    rw [ei, th_n_nI (by omega)] at hwi
    refine pm_astore (lv2 := [(4, _), (0, _), (1, _), (2, _), (3, _)]) dX11_likely_5 (Nat.le_of_ble_eq_true rfl) rfl ?_
    refine pm_aload dX11_likely_7 rfl ?_
    refine pm_ifnonnull (tgt := 16) dX11_likely_9 (by decide) ?_
    refine pm_iload_n dX11_likely_16 rfl rfl ?_
    refine pm_iconst (v := 1) dX11_likely_17 (by decide) ?_
    refine pm_iconst (v := 3) dX11_likely_18 (by decide) ?_
    refine pm_callS (M2 := m_X11_isOutside) (As := [_, _, _]) ok_X11_isOutside kw_361 kw_362 dX11_likely_19 rfl rfl (Nat.le_of_ble_eq_true rfl) ⟨⟨Nat.le_of_ble_eq_true rfl, Nat.le_of_ble_eq_true rfl⟩, Nat.le_of_ble_eq_true rfl, Nat.le_of_ble_eq_true rfl⟩ ?_
    refine c_X11_isOutside (fun u => ?_) (fun u v => ?_)
    · refine pm_if_ne (tgt := 34) dX11_likely_22 (by decide) (fun c_22 => ?_) (fun c_22 => absurd c_22 (by decide))
      refine pm_ldc2 kw_730 dX11_likely_34 ?_
      refine pm_lret dX11_likely_37 rfl rfl rfl ?_
      refine th_rl ?_ (hQ (Y 5))
      rw [th_likelyA, if_pos (th_okt hi (by omega)), if_neg (fun z => u z.1)]
    · refine pm_if_ne (tgt := 34) dX11_likely_22 (by decide) (fun c_22 => absurd (rfl) c_22) (fun c_22 => ?_)
      refine pm_iload_n dX11_likely_25 rfl rfl ?_
      refine pm_iconst (v := 0) dX11_likely_26 (by decide) ?_
      refine pm_iconst (v := 1) dX11_likely_27 (by decide) ?_
      refine pm_callS (M2 := m_X11_isOutside) (As := [_, _, _]) ok_X11_isOutside kw_361 kw_362 dX11_likely_28 rfl rfl (Nat.le_of_ble_eq_true rfl) ⟨⟨Nat.le_of_ble_eq_true rfl, Nat.le_of_ble_eq_true rfl⟩, Nat.le_of_ble_eq_true rfl, Nat.le_of_ble_eq_true rfl⟩ ?_
      refine c_X11_isOutside (fun u => ?_) (fun u2 v2 => ?_)
      · refine pm_if_eq (tgt := 38) dX11_likely_31 (by decide) (fun c_31 => absurd c_31 (by decide)) (fun c_31 => ?_)
        refine pm_ldc2 kw_730 dX11_likely_34 ?_
        refine pm_lret dX11_likely_37 rfl rfl rfl ?_
        refine th_rl ?_ (hQ (Y 5))
        rw [th_likelyA, if_pos (th_okt hi (by omega)), if_neg (fun z => u z.2)]
      · have hcd : (1 ≤ g ∧ g ≤ 3) ∧ (0 ≤ p ∧ p ≤ 1) := ⟨⟨u, v⟩, u2, v2⟩
        refine pm_if_eq (tgt := 38) dX11_likely_31 (by decide) (fun c_31 => ?_) (fun c_31 => absurd (rfl) c_31)
        refine pm_aload_n dX11_likely_38 rfl rfl ?_
        refine pm_get fl_RX11_103_11 dX11_likely_39 rfl rfl ?_
        refine pm_bipush (v := 6) dX11_likely_42 (by decide) ?_
        refine pm_icmp_le (tgt := 53) dX11_likely_44 (by decide) (fun c_44 => ?_) (fun c_44 => ?_)
        · refine pm_aload_n dX11_likely_53 rfl rfl ?_
          refine pm_get fl_RX11_38_11 dX11_likely_54 rfl rfl ?_
          refine pm_aload dX11_likely_57 rfl ?_
          refine pm_iload_n dX11_likely_59 rfl rfl ?_
          refine pm_aload_n dX11_likely_60 rfl rfl ?_
          refine pm_get fl_RX11_103_11 dX11_likely_61 rfl rfl ?_
          refine pm_iload_n dX11_likely_64 rfl rfl ?_
          have h6 : S 11 ≤ 6 := (nI_leI (b := 6) (by omega) (by decide)).mp c_44
          refine pm_callV (M2 := m_X3_learntGrade) (As := [_, _, _, _]) ok_X3_learntGrade (ci := 3) rfl kw_796 kw_797 kw_798 dX11_likely_65 rfl rfl rfl (Nat.le_of_ble_eq_true rfl) ⟨⟨Nat.le_of_ble_eq_true rfl, Nat.le_of_ble_eq_true rfl⟩, Nat.le_of_ble_eq_true rfl, Nat.le_of_ble_eq_true rfl⟩ ?_
          refine c_X3_learntGrade hI hT hi h6 hwi (fun t => ?_)
          refine pm_lret dX11_likely_68 rfl rfl rfl ?_
          refine th_rl ?_ (hQ t)
          rw [th_likelyA, if_pos (th_okt hi (by omega)), if_pos hcd, if_pos h6, th_n_nI (by omega)]
        · refine pm_ldc2 kw_768 dX11_likely_47 ?_
          refine pm_goto (tgt := 68) dX11_likely_50 (by decide) ?_
          refine pm_lret dX11_likely_68 rfl rfl rfl ?_
          have h6 : ¬ S 11 ≤ 6 := fun z => c_44 ((nI_leI (b := 6) (by omega) (by decide)).mpr z)
          refine th_rl ?_ (hQ (Y 5))
          rw [th_likelyA, if_pos (th_okt hi (by omega)), if_pos hcd, if_neg h6]
  · refine pm_nstore (lv2 := [(4, _), (0, _), (1, _), (2, _), (3, _)]) dX11_likely_5 (Nat.le_of_ble_eq_true rfl) rfl ?_
    refine pm_nload dX11_likely_7 rfl ?_
    refine pm_ifnonnullN dX11_likely_9 ?_
    refine pm_ldc2 kw_728 dX11_likely_12 ?_
    refine pm_lret dX11_likely_15 rfl rfl rfl ?_
    refine th_rl ?_ (hQ (Y 5))
    rw [th_likelyA, if_neg (th_okf hn (by omega))]

set_option maxHeartbeats 600000 in
set_option maxRecDepth 100000 in
theorem c_X11_odds {l : Launch} {G : pm_G} {ad : Nat → Nat → Nat} {S : Nat → Nat} {A : Nat → Nat → Int32} {X : Nat → Int32} {Y : Nat → Nat → Int32} {F : Nat → Int64} {Hd Cs : Nat → Option Nat} {m : List pm_A} {Q : pm_T} {x y p : Int32} (hI : th_I S A) (hT : th_T S A Y) (hQ : ∀ t, Q ad (some (.long (th_oddsA S A x y p))) (th_cw ad S A X (va_up Y 5 t) F Hd Cs m)) : pm_C l G m_X11_odds [.ref (ad 0 0), .int x, .int y, .int p] ad (th_cw ad S A X Y F Hd Cs m) Q := by
  have h8 := hI.2.2.2.2.1.1
  have h10 := hI.2.2.2.2.2.1.1
  refine pm_met (by decide) (Nat.le_of_ble_eq_true rfl) ?_
  refine pm_aload_n dX11_odds_0 rfl rfl ?_
  refine pm_iload_n dX11_odds_1 rfl rfl ?_
  refine pm_callV (M2 := m_X11_nutOf) (As := [_]) ok_X11_nutOf (ci := 11) rfl kw_545 kw_547 kw_5 dX11_odds_2 rfl rfl rfl (Nat.le_of_ble_eq_true rfl) ⟨⟨Nat.le_of_ble_eq_true rfl, Nat.le_of_ble_eq_true rfl⟩, Nat.le_of_ble_eq_true rfl, Nat.le_of_ble_eq_true rfl⟩ ?_
  refine c_X11_nutOf h8 (fun i hi e => ?_) (fun hn => ?_)
  · subst e
    obtain ⟨⟨ki, hki, ei⟩, -⟩ := th_nk hI hi
    have hwi : th_g2 ad S A Y i = some (.inr (pm_kc (th_n (A 6 i)), th_nf ad A Y i)) := th_nt_get hi
    rw [ei, th_n_nI (by omega)] at hwi
    refine pm_astore (lv2 := [(4, _), (0, _), (1, _), (2, _), (3, _)]) dX11_odds_5 (Nat.le_of_ble_eq_true rfl) rfl ?_
    refine pm_aload_n dX11_odds_7 rfl rfl ?_
    refine pm_iload_n dX11_odds_8 rfl rfl ?_
    refine pm_callV (M2 := m_X11_nutOf) (As := [_]) ok_X11_nutOf (ci := 11) rfl kw_545 kw_547 kw_5 dX11_odds_9 rfl rfl rfl (Nat.le_of_ble_eq_true rfl) ⟨⟨Nat.le_of_ble_eq_true rfl, Nat.le_of_ble_eq_true rfl⟩, Nat.le_of_ble_eq_true rfl, Nat.le_of_ble_eq_true rfl⟩ ?_
    refine c_X11_nutOf h8 (fun j hj e => ?_) (fun hn2 => ?_)
    · subst e
      obtain ⟨⟨kj, hkj, ej⟩, -⟩ := th_nk hI hj
      have hwj : th_g2 ad S A Y j = some (.inr (pm_kc (th_n (A 6 j)), th_nf ad A Y j)) := th_nt_get hj
      rw [ej, th_n_nI (by omega)] at hwj
      refine pm_astore (lv2 := [(5, _), (4, _), (0, _), (1, _), (2, _), (3, _)]) dX11_odds_12 (Nat.le_of_ble_eq_true rfl) rfl ?_
      refine pm_aload dX11_odds_14 rfl ?_
      refine pm_ifnull dX11_odds_16 ?_
      refine pm_aload dX11_odds_19 rfl ?_
      refine pm_ifnull dX11_odds_21 ?_
      refine pm_aload dX11_odds_24 rfl ?_
      refine pm_aload dX11_odds_26 rfl ?_
      refine pm_inj (show pm_get? (th_cw ad S A X Y F Hd Cs m) 2 i = _ from hwi) (show pm_get? (th_cw ad S A X Y F Hd Cs m) 2 j = _ from hwj) (fun hadd => ?_)
      refine pm_acmp_ne (tgt := 35) dX11_odds_28 (by decide) (fun c_28 => ?_) (fun c_28 => ?_)
      · have hij : ¬ nI i = nI j := fun e => c_28 (by rw [(nI_eq (by omega) (by omega)).mp e])
        have hcd : th_ok (nI i) (S 11) ∧ th_ok (nI j) (S 11) ∧ ¬ nI i = nI j := ⟨th_okt hi (by omega), th_okt hj (by omega), hij⟩
        refine pm_iload_n dX11_odds_35 rfl rfl ?_
        refine pm_iconst (v := 0) dX11_odds_36 (by decide) ?_
        refine pm_iconst (v := 1) dX11_odds_37 (by decide) ?_
        refine pm_callS (M2 := m_X11_isOutside) (As := [_, _, _]) ok_X11_isOutside kw_361 kw_362 dX11_odds_38 rfl rfl (Nat.le_of_ble_eq_true rfl) ⟨⟨Nat.le_of_ble_eq_true rfl, Nat.le_of_ble_eq_true rfl⟩, Nat.le_of_ble_eq_true rfl, Nat.le_of_ble_eq_true rfl⟩ ?_
        refine c_X11_isOutside (fun u => ?_) (fun u2 v2 => ?_)
        · refine pm_if_eq (tgt := 48) dX11_odds_41 (by decide) (fun c_41 => absurd c_41 (by decide)) (fun c_41 => ?_)
          refine pm_ldc2 kw_730 dX11_odds_44 ?_
          refine pm_lret dX11_odds_47 rfl rfl rfl ?_
          refine th_rl ?_ (hQ (Y 5))
          rw [th_oddsA, if_pos hcd, if_neg u]
        · have hcp : 0 ≤ p ∧ p ≤ 1 := ⟨u2, v2⟩
          refine pm_if_eq (tgt := 48) dX11_odds_41 (by decide) (fun c_41 => ?_) (fun c_41 => absurd (rfl) c_41)
          refine pm_aload_n dX11_odds_48 rfl rfl ?_
          refine pm_get fl_RX11_103_11 dX11_odds_49 rfl rfl ?_
          refine pm_bipush (v := 6) dX11_odds_52 (by decide) ?_
          refine pm_icmp_le (tgt := 63) dX11_odds_54 (by decide) (fun c_54 => ?_) (fun c_54 => ?_)
          · refine pm_aload_n dX11_odds_63 rfl rfl ?_
            refine pm_get fl_RX11_38_11 dX11_odds_64 rfl rfl ?_
            refine pm_aload dX11_odds_67 rfl ?_
            refine pm_aload dX11_odds_69 rfl ?_
            refine pm_aload_n dX11_odds_71 rfl rfl ?_
            refine pm_get fl_RX11_103_11 dX11_odds_72 rfl rfl ?_
            refine pm_iload_n dX11_odds_75 rfl rfl ?_
            have h6 : S 11 ≤ 6 := (nI_leI (b := 6) (by omega) (by decide)).mp c_54
            refine pm_callV (M2 := m_X3_learntOdds) (As := [_, _, _, _]) ok_X3_learntOdds (ci := 3) rfl kw_769 kw_770 kw_771 dX11_odds_76 rfl rfl rfl (Nat.le_of_ble_eq_true rfl) ⟨⟨Nat.le_of_ble_eq_true rfl, Nat.le_of_ble_eq_true rfl⟩, Nat.le_of_ble_eq_true rfl, Nat.le_of_ble_eq_true rfl⟩ ?_
            refine c_X3_learntOdds hI hT hi hj h6 hwi hwj (fun t => ?_)
            refine pm_lret dX11_odds_79 rfl rfl rfl ?_
            refine th_rl ?_ (hQ t)
            rw [th_oddsA, if_pos hcd, if_pos hcp, if_pos h6, th_n_nI (by omega), th_n_nI (by omega)]
          · refine pm_ldc2 kw_768 dX11_odds_57 ?_
            refine pm_goto (tgt := 79) dX11_odds_60 (by decide) ?_
            refine pm_lret dX11_odds_79 rfl rfl rfl ?_
            have h6 : ¬ S 11 ≤ 6 := fun z => c_54 ((nI_leI (b := 6) (by omega) (by decide)).mpr z)
            refine th_rl ?_ (hQ (Y 5))
            rw [th_oddsA, if_pos hcd, if_pos hcp, if_neg h6]
      · refine pm_ldc2 kw_728 dX11_odds_31 ?_
        refine pm_lret dX11_odds_34 rfl rfl rfl ?_
        refine th_rl ?_ (hQ (Y 5))
        rw [th_oddsA, if_neg (fun z => z.2.2 (by rw [hadd.mp c_28]))]
    · refine pm_nstore (lv2 := [(5, _), (4, _), (0, _), (1, _), (2, _), (3, _)]) dX11_odds_12 (Nat.le_of_ble_eq_true rfl) rfl ?_
      refine pm_aload dX11_odds_14 rfl ?_
      refine pm_ifnull dX11_odds_16 ?_
      refine pm_nload dX11_odds_19 rfl ?_
      refine pm_ifnullN (tgt := 31) dX11_odds_21 (by decide) ?_
      refine pm_ldc2 kw_728 dX11_odds_31 ?_
      refine pm_lret dX11_odds_34 rfl rfl rfl ?_
      refine th_rl ?_ (hQ (Y 5))
      rw [th_oddsA, if_neg (fun z => th_okf hn2 (by omega) z.2.1)]
  · refine pm_nstore (lv2 := [(4, _), (0, _), (1, _), (2, _), (3, _)]) dX11_odds_5 (Nat.le_of_ble_eq_true rfl) rfl ?_
    refine pm_aload_n dX11_odds_7 rfl rfl ?_
    refine pm_iload_n dX11_odds_8 rfl rfl ?_
    refine pm_callV (M2 := m_X11_nutOf) (As := [_]) ok_X11_nutOf (ci := 11) rfl kw_545 kw_547 kw_5 dX11_odds_9 rfl rfl rfl (Nat.le_of_ble_eq_true rfl) ⟨⟨Nat.le_of_ble_eq_true rfl, Nat.le_of_ble_eq_true rfl⟩, Nat.le_of_ble_eq_true rfl, Nat.le_of_ble_eq_true rfl⟩ ?_
    refine c_X11_nutOf h8 (fun j hj e => ?_) (fun hn2 => ?_)
    · subst e
      obtain ⟨⟨kj, hkj, ej⟩, -⟩ := th_nk hI hj
      have hwj : th_g2 ad S A Y j = some (.inr (pm_kc (th_n (A 6 j)), th_nf ad A Y j)) := th_nt_get hj
      rw [ej, th_n_nI (by omega)] at hwj
      refine pm_astore (lv2 := [(5, _), (4, _), (0, _), (1, _), (2, _), (3, _)]) dX11_odds_12 (Nat.le_of_ble_eq_true rfl) rfl ?_
      refine pm_nload dX11_odds_14 rfl ?_
      refine pm_ifnullN (tgt := 31) dX11_odds_16 (by decide) ?_
      refine pm_ldc2 kw_728 dX11_odds_31 ?_
      refine pm_lret dX11_odds_34 rfl rfl rfl ?_
      refine th_rl ?_ (hQ (Y 5))
      rw [th_oddsA, if_neg (fun z => th_okf hn (by omega) z.1)]
    · refine pm_nstore (lv2 := [(5, _), (4, _), (0, _), (1, _), (2, _), (3, _)]) dX11_odds_12 (Nat.le_of_ble_eq_true rfl) rfl ?_
      refine pm_nload dX11_odds_14 rfl ?_
      refine pm_ifnullN (tgt := 31) dX11_odds_16 (by decide) ?_
      refine pm_ldc2 kw_728 dX11_odds_31 ?_
      refine pm_lret dX11_odds_34 rfl rfl rfl ?_
      refine th_rl ?_ (hQ (Y 5))
      rw [th_oddsA, if_neg (fun z => th_okf hn (by omega) z.1)]

