theorem th_tn_N (a b : Int32) : ∃ v : Nat, v ≤ 9 ∧ th_tn a b = nI v := by
  unfold th_tn
  by_cases h1 : 1 ≤ 5 + a - b
  · rw [if_pos h1]
    by_cases h2 : 5 + a - b ≤ 9
    · rw [if_pos h2]
      exact th_03 (Int32.le_trans (by decide) h1) (n := 9) (by decide) h2
    · rw [if_neg h2]
      exact ⟨9, by omega, rfl⟩
  · rw [if_neg h1]
    exact ⟨1, by omega, rfl⟩
def th_wi (a b c d : Int32) : Int32 := th_tn a b * (th_tn c d * th_tn a c + th_tn d c * th_tn a d)
theorem th_wi_N (a b c d : Int32) : th_wi a b c d = nI (th_n (th_wi a b c d)) ∧ th_n (th_wi a b c d) < 2 ^ 31 := by
  obtain ⟨p, hp, e1⟩ := th_tn_N a b
  obtain ⟨q, hq, e2⟩ := th_tn_N c d
  obtain ⟨r, hr, e3⟩ := th_tn_N a c
  obtain ⟨s, hs, e4⟩ := th_tn_N d c
  obtain ⟨t, ht, e5⟩ := th_tn_N a d
  unfold th_wi
  have h1 := Nat.mul_le_mul hq hr
  have h2 := Nat.mul_le_mul hs ht
  have h3 := Nat.mul_le_mul hp (Nat.add_le_add h1 h2)
  rw [e1, e2, e3, e4, e5, pk_mul, pk_mul, nI_add, pk_mul, th_n_nI (by omega)]
  exact ⟨rfl, by omega⟩
abbrev th_f4 (n : Nat) (a b c d : Int32) : Prop := th_ok a n ∧ th_ok b n ∧ th_ok c n ∧ th_ok d n ∧ ¬ a = b ∧ ¬ a = c ∧ ¬ a = d ∧ ¬ b = c ∧ ¬ b = d ∧ ¬ c = d
abbrev th_hdn (A : Nat → Nat → Int32) (i : Nat) : Int32 := pm_hd (th_n (A 6 i)) (A 8 i)
def th_tu (a b c d who : Int32) : Int32 := if who = 0 then th_wi a b c d else if who = 1 then th_wi b a c d else if who = 2 then th_wi c d a b else th_wi d c a b
def th_treeA (S : Nat → Nat) (A : Nat → Nat → Int32) (a b c d who p : Int32) : Int32 := if th_f4 (S 11) a b c d then (if (0 ≤ who ∧ who ≤ 3) ∧ (0 ≤ p ∧ p ≤ 1) then (th_trm (th_n (th_tu (th_hdn A (th_n a)) (th_hdn A (th_n b)) (th_hdn A (th_n c)) (th_hdn A (th_n d)) who)) 1000 p).toInt32 else -102) else -101
def th_lst (a b c d : Int32) : Int32 := if th_tn a d * th_tn b c ≤ th_tn a c * th_tn b d then 1 else 2
def th_lastA (S : Nat → Nat) (A : Nat → Nat → Int32) (a b c d : Int32) : Int32 := if th_f4 (S 11) a b c d then th_lst (th_hdn A (th_n a)) (th_hdn A (th_n b)) (th_hdn A (th_n c)) (th_hdn A (th_n d)) else -101
theorem th_tu_N (a b c d who : Int32) : th_tu a b c d who = nI (th_n (th_tu a b c d who)) ∧ th_n (th_tu a b c d who) < 2 ^ 31 := by
  unfold th_tu
  by_cases h0 : who = 0
  · rw [if_pos h0]; exact th_wi_N _ _ _ _
  rw [if_neg h0]
  by_cases h1 : who = 1
  · rw [if_pos h1]; exact th_wi_N _ _ _ _
  rw [if_neg h1]
  by_cases h2 : who = 2
  · rw [if_pos h2]; exact th_wi_N _ _ _ _
  rw [if_neg h2]; exact th_wi_N _ _ _ _
set_option maxHeartbeats 600000 in
set_option maxRecDepth 100000 in
theorem c_X12_areFour {l : Launch} {G : pm_G} {ad : Nat → Nat → Nat} {a0 a3 a4 a5 a6 a7 : List pm_A} {a1 a2 : Nat → Option pm_A} {S : Nat → Nat} {A : Nat → Nat → Int32} {s : Nat → Int32} {B : Nat → Nat → Int32} {hs : Int64} {Q : pm_T} {a b c d : Int32} (h8 : S 11 ≤ 8) (h1 : ∀ i j k q, i < S 11 → j < S 11 → k < S 11 → q < S 11 → a = nI i → b = nI j → c = nI k → d = nI q → th_f4 (S 11) a b c d → Q ad (some (.int 1)) (a0, a1, a2, a3, a4, a5, a6, a7, th_mp ad S A s B hs)) (h0 : ¬ th_f4 (S 11) a b c d → Q ad (some (.int 0)) (a0, a1, a2, a3, a4, a5, a6, a7, th_mp ad S A s B hs)) : pm_C l G m_X12_areFour [.ref (ad 8 0), .int a, .int b, .int c, .int d] ad (a0, a1, a2, a3, a4, a5, a6, a7, th_mp ad S A s B hs) Q := by
  refine pm_met (by decide) (Nat.le_of_ble_eq_true rfl) ?_
  refine pm_aload_n dX12_areFour_0 rfl rfl ?_
  refine pm_iload_n dX12_areFour_1 rfl rfl ?_
  refine pm_iload_n dX12_areFour_2 rfl rfl ?_
  refine pm_callV (M2 := m_X12_isPair) (As := [_, _]) ok_X12_isPair (ci := 12) rfl kw_1174 kw_1176 kw_27 dX12_areFour_3 rfl rfl rfl (Nat.le_of_ble_eq_true rfl) ⟨⟨Nat.le_of_ble_eq_true rfl, Nat.le_of_ble_eq_true rfl⟩, Nat.le_of_ble_eq_true rfl, Nat.le_of_ble_eq_true rfl⟩ ?_
  refine c_X12_isPair h8 (fun i j hi hj hij ea eb => ?_) (fun hn => ?_)
  · subst ea eb
    refine pm_if_eq (tgt := 45) dX12_areFour_6 (by decide) (fun c_6 => absurd c_6 (by decide)) (fun c_6 => ?_)
    refine pm_aload_n dX12_areFour_9 rfl rfl ?_
    refine pm_iload_n dX12_areFour_10 rfl rfl ?_
    refine pm_iload dX12_areFour_11 rfl ?_
    refine pm_callV (M2 := m_X12_isPair) (As := [_, _]) ok_X12_isPair (ci := 12) rfl kw_1174 kw_1176 kw_27 dX12_areFour_13 rfl rfl rfl (Nat.le_of_ble_eq_true rfl) ⟨⟨Nat.le_of_ble_eq_true rfl, Nat.le_of_ble_eq_true rfl⟩, Nat.le_of_ble_eq_true rfl, Nat.le_of_ble_eq_true rfl⟩ ?_
    refine c_X12_isPair h8 (fun k q hk hq hkq ec ed => ?_) (fun hn => ?_)
    · subst ec ed
      refine pm_if_eq (tgt := 45) dX12_areFour_16 (by decide) (fun c_16 => absurd c_16 (by decide)) (fun c_16 => ?_)
      refine pm_iload_n dX12_areFour_19 rfl rfl ?_
      refine pm_iload_n dX12_areFour_20 rfl rfl ?_
      refine pm_icmp_eq (tgt := 45) dX12_areFour_21 (by decide) (fun c_21 => ?_) (fun c_21 => ?_)
      · refine pm_iconst (v := 0) dX12_areFour_45 (by decide) ?_
        refine pm_zret dX12_areFour_46 rfl rfl rfl rfl ?_
        exact h0 (fun z => z.2.2.2.2.2.1 c_21)
      · refine pm_iload_n dX12_areFour_24 rfl rfl ?_
        refine pm_iload dX12_areFour_25 rfl ?_
        refine pm_icmp_eq (tgt := 45) dX12_areFour_27 (by decide) (fun c_27 => ?_) (fun c_27 => ?_)
        · refine pm_iconst (v := 0) dX12_areFour_45 (by decide) ?_
          refine pm_zret dX12_areFour_46 rfl rfl rfl rfl ?_
          exact h0 (fun z => z.2.2.2.2.2.2.1 c_27)
        · refine pm_iload_n dX12_areFour_30 rfl rfl ?_
          refine pm_iload_n dX12_areFour_31 rfl rfl ?_
          refine pm_icmp_eq (tgt := 45) dX12_areFour_32 (by decide) (fun c_32 => ?_) (fun c_32 => ?_)
          · refine pm_iconst (v := 0) dX12_areFour_45 (by decide) ?_
            refine pm_zret dX12_areFour_46 rfl rfl rfl rfl ?_
            exact h0 (fun z => z.2.2.2.2.2.2.2.1 c_32)
          · refine pm_iload_n dX12_areFour_35 rfl rfl ?_
            refine pm_iload dX12_areFour_36 rfl ?_
            refine pm_icmp_eq (tgt := 45) dX12_areFour_38 (by decide) (fun c_38 => ?_) (fun c_38 => ?_)
            · refine pm_iconst (v := 0) dX12_areFour_45 (by decide) ?_
              refine pm_zret dX12_areFour_46 rfl rfl rfl rfl ?_
              exact h0 (fun z => z.2.2.2.2.2.2.2.2.1 c_38)
            · refine pm_iconst (v := 1) dX12_areFour_41 (by decide) ?_
              refine pm_goto (tgt := 46) dX12_areFour_42 (by decide) ?_
              refine pm_zret dX12_areFour_46 rfl rfl rfl rfl ?_
              exact h1 i j k q hi hj hk hq rfl rfl rfl rfl ⟨th_okt hi (by omega), th_okt hj (by omega), th_okt hk (by omega), th_okt hq (by omega), fun e => hij ((nI_eq (by omega) (by omega)).mp e), c_21, c_27, c_32, c_38, fun e => hkq ((nI_eq (by omega) (by omega)).mp e)⟩
    · refine pm_if_eq (tgt := 45) dX12_areFour_16 (by decide) (fun c_16 => ?_) (fun c_16 => absurd (rfl) c_16)
      refine pm_iconst (v := 0) dX12_areFour_45 (by decide) ?_
      refine pm_zret dX12_areFour_46 rfl rfl rfl rfl ?_
      exact h0 (fun z => hn ⟨(th_is_iff (by omega)).mp z.2.2.1, (th_is_iff (by omega)).mp z.2.2.2.1, z.2.2.2.2.2.2.2.2.2⟩)
  · refine pm_if_eq (tgt := 45) dX12_areFour_6 (by decide) (fun c_6 => ?_) (fun c_6 => absurd (rfl) c_6)
    refine pm_iconst (v := 0) dX12_areFour_45 (by decide) ?_
    refine pm_zret dX12_areFour_46 rfl rfl rfl rfl ?_
    exact h0 (fun z => hn ⟨(th_is_iff (by omega)).mp z.1, (th_is_iff (by omega)).mp z.2.1, z.2.2.2.2.1⟩)

set_option maxHeartbeats 600000 in
set_option maxRecDepth 100000 in
theorem c_X12_wins {l : Launch} {G : pm_G} {ad : Nat → Nat → Nat} {a0 a3 a4 a5 a6 a7 : List pm_A} {a1 a2 : Nat → Option pm_A} {S : Nat → Nat} {A : Nat → Nat → Int32} {s : Nat → Int32} {B : Nat → Nat → Int32} {hs : Int64} {Q : pm_T} {i j k q : Nat} (hI : th_I S A) (hi : i < S 11) (hj : j < S 11) (hk : k < S 11) (hq : q < S 11) (hQ : Q ad (some (.int (th_wi (th_hdn A i) (th_hdn A j) (th_hdn A k) (th_hdn A q)))) (a0, a1, a2, a3, a4, a5, a6, a7, th_mp ad S A s B hs)) : pm_C l G m_X12_wins [.ref (ad 8 0), .int (nI i), .int (nI j), .int (nI k), .int (nI q)] ad (a0, a1, a2, a3, a4, a5, a6, a7, th_mp ad S A s B hs) Q := by
  have h8 := hI.2.2.2.2.1.1
  obtain ⟨⟨ki, hki, ei⟩, -⟩ := th_nk hI hi
  have hdi : th_hdn A i = pm_hd ki (A 8 i) := by rw [th_hdn, ei, th_n_nI (by omega)]
  obtain ⟨⟨kj, hkj, ej⟩, -⟩ := th_nk hI hj
  have hdj : th_hdn A j = pm_hd kj (A 8 j) := by rw [th_hdn, ej, th_n_nI (by omega)]
  obtain ⟨⟨kk, hkk, ek⟩, -⟩ := th_nk hI hk
  have hdk : th_hdn A k = pm_hd kk (A 8 k) := by rw [th_hdn, ek, th_n_nI (by omega)]
  obtain ⟨⟨kq, hkq, eq⟩, -⟩ := th_nk hI hq
  have hdq : th_hdn A q = pm_hd kq (A 8 q) := by rw [th_hdn, eq, th_n_nI (by omega)]
  refine pm_met (by decide) (Nat.le_of_ble_eq_true rfl) ?_
  refine pm_aload_n dX12_wins_0 rfl rfl ?_
  refine pm_iload_n dX12_wins_1 rfl rfl ?_
  refine pm_iload_n dX12_wins_2 rfl rfl ?_
  refine pm_callV (M2 := m_X12_tenths) (As := [_, _]) ok_X12_tenths (ci := 12) rfl kw_1334 kw_1336 kw_42 dX12_wins_3 rfl rfl rfl (Nat.le_of_ble_eq_true rfl) ⟨⟨Nat.le_of_ble_eq_true rfl, Nat.le_of_ble_eq_true rfl⟩, Nat.le_of_ble_eq_true rfl, Nat.le_of_ble_eq_true rfl⟩ ?_
  refine c_X12_tenths (by omega) (by omega) hki hkj ei ej ?_
  rw [← hdi, ← hdj]
  refine pm_aload_n dX12_wins_6 rfl rfl ?_
  refine pm_iload_n dX12_wins_7 rfl rfl ?_
  refine pm_iload dX12_wins_8 rfl ?_
  refine pm_callV (M2 := m_X12_tenths) (As := [_, _]) ok_X12_tenths (ci := 12) rfl kw_1334 kw_1336 kw_42 dX12_wins_10 rfl rfl rfl (Nat.le_of_ble_eq_true rfl) ⟨⟨Nat.le_of_ble_eq_true rfl, Nat.le_of_ble_eq_true rfl⟩, Nat.le_of_ble_eq_true rfl, Nat.le_of_ble_eq_true rfl⟩ ?_
  refine c_X12_tenths (by omega) (by omega) hkk hkq ek eq ?_
  rw [← hdk, ← hdq]
  refine pm_aload_n dX12_wins_13 rfl rfl ?_
  refine pm_iload_n dX12_wins_14 rfl rfl ?_
  refine pm_iload_n dX12_wins_15 rfl rfl ?_
  refine pm_callV (M2 := m_X12_tenths) (As := [_, _]) ok_X12_tenths (ci := 12) rfl kw_1334 kw_1336 kw_42 dX12_wins_16 rfl rfl rfl (Nat.le_of_ble_eq_true rfl) ⟨⟨Nat.le_of_ble_eq_true rfl, Nat.le_of_ble_eq_true rfl⟩, Nat.le_of_ble_eq_true rfl, Nat.le_of_ble_eq_true rfl⟩ ?_
  refine c_X12_tenths (by omega) (by omega) hki hkk ei ek ?_
  rw [← hdi, ← hdk]
  refine pm_imul dX12_wins_19 ?_
  refine pm_aload_n dX12_wins_20 rfl rfl ?_
  refine pm_iload dX12_wins_21 rfl ?_
  refine pm_iload_n dX12_wins_23 rfl rfl ?_
  refine pm_callV (M2 := m_X12_tenths) (As := [_, _]) ok_X12_tenths (ci := 12) rfl kw_1334 kw_1336 kw_42 dX12_wins_24 rfl rfl rfl (Nat.le_of_ble_eq_true rfl) ⟨⟨Nat.le_of_ble_eq_true rfl, Nat.le_of_ble_eq_true rfl⟩, Nat.le_of_ble_eq_true rfl, Nat.le_of_ble_eq_true rfl⟩ ?_
  refine c_X12_tenths (by omega) (by omega) hkq hkk eq ek ?_
  rw [← hdq, ← hdk]
  refine pm_aload_n dX12_wins_27 rfl rfl ?_
  refine pm_iload_n dX12_wins_28 rfl rfl ?_
  refine pm_iload dX12_wins_29 rfl ?_
  refine pm_callV (M2 := m_X12_tenths) (As := [_, _]) ok_X12_tenths (ci := 12) rfl kw_1334 kw_1336 kw_42 dX12_wins_31 rfl rfl rfl (Nat.le_of_ble_eq_true rfl) ⟨⟨Nat.le_of_ble_eq_true rfl, Nat.le_of_ble_eq_true rfl⟩, Nat.le_of_ble_eq_true rfl, Nat.le_of_ble_eq_true rfl⟩ ?_
  refine c_X12_tenths (by omega) (by omega) hki hkq ei eq ?_
  rw [← hdi, ← hdq]
  refine pm_imul dX12_wins_34 ?_
  refine pm_iadd dX12_wins_35 ?_
  refine pm_imul dX12_wins_36 ?_
  refine pm_iret dX12_wins_37 rfl rfl rfl ?_
  exact hQ

set_option maxHeartbeats 600000 in
set_option maxRecDepth 100000 in
theorem c_X12_tree {l : Launch} {G : pm_G} {ad : Nat → Nat → Nat} {a0 a3 a4 a5 a6 a7 : List pm_A} {a1 a2 : Nat → Option pm_A} {S : Nat → Nat} {A : Nat → Nat → Int32} {s : Nat → Int32} {B : Nat → Nat → Int32} {hs : Int64} {Q : pm_T} {a b c d who p : Int32} (hI : th_I S A) (hQ : Q ad (some (.int (th_treeA S A a b c d who p))) (a0, a1, a2, a3, a4, a5, a6, a7, th_mp ad S A s B hs)) : pm_C l G m_X12_tree [.ref (ad 8 0), .int a, .int b, .int c, .int d, .int who, .int p] ad (a0, a1, a2, a3, a4, a5, a6, a7, th_mp ad S A s B hs) Q := by
  have h8 := hI.2.2.2.2.1.1
  refine pm_met (by decide) (Nat.le_of_ble_eq_true rfl) ?_
  refine pm_aload_n dX12_tree_0 rfl rfl ?_
  refine pm_iload_n dX12_tree_1 rfl rfl ?_
  refine pm_iload_n dX12_tree_2 rfl rfl ?_
  refine pm_iload_n dX12_tree_3 rfl rfl ?_
  refine pm_iload dX12_tree_4 rfl ?_
  refine pm_callV (M2 := m_X12_areFour) (As := [_, _, _, _]) ok_X12_areFour (ci := 12) rfl kw_1326 kw_1328 kw_40 dX12_tree_6 rfl rfl rfl (Nat.le_of_ble_eq_true rfl) ⟨⟨Nat.le_of_ble_eq_true rfl, Nat.le_of_ble_eq_true rfl⟩, Nat.le_of_ble_eq_true rfl, Nat.le_of_ble_eq_true rfl⟩ ?_
  refine c_X12_areFour h8 (fun i j k q hi hj hk hq ea eb ec ed hf => ?_) (fun hf => ?_)
  · subst ea eb ec ed
    refine pm_if_ne (tgt := 15) dX12_tree_9 (by decide) (fun c_9 => ?_) (fun c_9 => absurd c_9 (by decide))
    refine pm_iload dX12_tree_15 rfl ?_
    refine pm_i2l dX12_tree_17 ?_
    refine pm_lconst (v := 0) dX12_tree_18 (by decide) ?_
    refine pm_ldc2 kw_1142 dX12_tree_19 ?_
    refine pm_callS (M2 := m_X12_in) (As := [_, _, _]) ok_X12_in kw_1115 kw_1116 dX12_tree_22 rfl rfl (Nat.le_of_ble_eq_true rfl) ⟨⟨Nat.le_of_ble_eq_true rfl, Nat.le_of_ble_eq_true rfl⟩, Nat.le_of_ble_eq_true rfl, Nat.le_of_ble_eq_true rfl⟩ ?_
    refine c_X12_in32 (lo := 0) (hi := 3) rfl rfl (fun u v => ?_) (fun u => ?_)
    · refine pm_if_eq (tgt := 36) dX12_tree_25 (by decide) (fun c_25 => absurd c_25 (by decide)) (fun c_25 => ?_)
      refine pm_iload dX12_tree_28 rfl ?_
      refine pm_callS (M2 := m_X12_isPart) (As := [_]) ok_X12_isPart kw_1273 kw_1274 dX12_tree_30 rfl rfl (Nat.le_of_ble_eq_true rfl) ⟨⟨Nat.le_of_ble_eq_true rfl, Nat.le_of_ble_eq_true rfl⟩, Nat.le_of_ble_eq_true rfl, Nat.le_of_ble_eq_true rfl⟩ ?_
      refine c_X12_isPart (fun u2 v2 => ?_) (fun u => ?_)
      · refine pm_if_ne (tgt := 39) dX12_tree_33 (by decide) (fun c_33 => ?_) (fun c_33 => absurd c_33 (by decide))
        refine pm_iload dX12_tree_39 rfl ?_
        refine pm_if_ne (tgt := 56) dX12_tree_41 (by decide) (fun c_41 => ?_) (fun c_41 => ?_)
        · refine pm_iload dX12_tree_56 rfl ?_
          refine pm_iconst (v := 1) dX12_tree_58 (by decide) ?_
          refine pm_icmp_ne (tgt := 74) dX12_tree_59 (by decide) (fun c_59 => ?_) (fun c_59 => ?_)
          · refine pm_iload dX12_tree_74 rfl ?_
            refine pm_iconst (v := 2) dX12_tree_76 (by decide) ?_
            refine pm_icmp_ne (tgt := 92) dX12_tree_77 (by decide) (fun c_77 => ?_) (fun c_77 => ?_)
            · refine pm_aload_n dX12_tree_92 rfl rfl ?_
              refine pm_iload dX12_tree_93 rfl ?_
              refine pm_iload_n dX12_tree_95 rfl rfl ?_
              refine pm_iload_n dX12_tree_96 rfl rfl ?_
              refine pm_iload_n dX12_tree_97 rfl rfl ?_
              refine pm_callV (M2 := m_X12_wins) (As := [_, _, _, _]) ok_X12_wins (ci := 12) rfl kw_1330 kw_1332 kw_41 dX12_tree_98 rfl rfl rfl (Nat.le_of_ble_eq_true rfl) ⟨⟨Nat.le_of_ble_eq_true rfl, Nat.le_of_ble_eq_true rfl⟩, Nat.le_of_ble_eq_true rfl, Nat.le_of_ble_eq_true rfl⟩ ?_
              refine c_X12_wins hI hq hk hi hj ?_
              have hu := th_tu_N (th_hdn A i) (th_hdn A j) (th_hdn A k) (th_hdn A q) who
              have ew : th_wi (th_hdn A q) (th_hdn A k) (th_hdn A i) (th_hdn A j) = th_tu (th_hdn A i) (th_hdn A j) (th_hdn A k) (th_hdn A q) who := (by unfold th_tu; rw [if_neg c_41, if_neg c_59, if_neg c_77])
              rw [ew, hu.1]
              refine pm_istore (lv2 := [(7, _), (0, _), (1, _), (2, _), (3, _), (4, _), (5, _), (6, _)]) dX12_tree_101 (Nat.le_of_ble_eq_true rfl) rfl ?_
              refine pm_iload dX12_tree_103 rfl ?_
              refine pm_i2l dX12_tree_105 ?_
              refine pm_ldc2 kw_1338 dX12_tree_106 ?_
              refine pm_iload dX12_tree_109 rfl ?_
              rw [nI_l hu.2]
              refine pm_callS (M2 := m_X12_term) (As := [_, _, _]) ok_X12_term kw_1288 kw_1289 dX12_tree_111 rfl rfl (Nat.le_of_ble_eq_true rfl) ⟨⟨Nat.le_of_ble_eq_true rfl, Nat.le_of_ble_eq_true rfl⟩, Nat.le_of_ble_eq_true rfl, Nat.le_of_ble_eq_true rfl⟩ ?_
              refine c_X12_term (b := 1000) (by have := hu.2; omega) (by decide) (by decide) ?_
              refine pm_l2i dX12_tree_114 ?_
              refine pm_iret dX12_tree_115 rfl rfl rfl ?_
              have hcd : (0 ≤ who ∧ who ≤ 3) ∧ (0 ≤ p ∧ p ≤ 1) := ⟨⟨u, v⟩, u2, v2⟩
              refine th_r ?_ hQ
              rw [th_treeA, if_pos hf, if_pos hcd, th_n_nI (show i < 2 ^ 31 by omega), th_n_nI (show j < 2 ^ 31 by omega), th_n_nI (show k < 2 ^ 31 by omega), th_n_nI (show q < 2 ^ 31 by omega)]
            · refine pm_aload_n dX12_tree_80 rfl rfl ?_
              refine pm_iload_n dX12_tree_81 rfl rfl ?_
              refine pm_iload dX12_tree_82 rfl ?_
              refine pm_iload_n dX12_tree_84 rfl rfl ?_
              refine pm_iload_n dX12_tree_85 rfl rfl ?_
              refine pm_callV (M2 := m_X12_wins) (As := [_, _, _, _]) ok_X12_wins (ci := 12) rfl kw_1330 kw_1332 kw_41 dX12_tree_86 rfl rfl rfl (Nat.le_of_ble_eq_true rfl) ⟨⟨Nat.le_of_ble_eq_true rfl, Nat.le_of_ble_eq_true rfl⟩, Nat.le_of_ble_eq_true rfl, Nat.le_of_ble_eq_true rfl⟩ ?_
              refine c_X12_wins hI hk hq hi hj ?_
              refine pm_goto (tgt := 101) dX12_tree_89 (by decide) ?_
              have hu := th_tu_N (th_hdn A i) (th_hdn A j) (th_hdn A k) (th_hdn A q) who
              have ew : th_wi (th_hdn A k) (th_hdn A q) (th_hdn A i) (th_hdn A j) = th_tu (th_hdn A i) (th_hdn A j) (th_hdn A k) (th_hdn A q) who := (by unfold th_tu; rw [if_neg c_41, if_neg c_59, if_pos c_77])
              rw [ew, hu.1]
              refine pm_istore (lv2 := [(7, _), (0, _), (1, _), (2, _), (3, _), (4, _), (5, _), (6, _)]) dX12_tree_101 (Nat.le_of_ble_eq_true rfl) rfl ?_
              refine pm_iload dX12_tree_103 rfl ?_
              refine pm_i2l dX12_tree_105 ?_
              refine pm_ldc2 kw_1338 dX12_tree_106 ?_
              refine pm_iload dX12_tree_109 rfl ?_
              rw [nI_l hu.2]
              refine pm_callS (M2 := m_X12_term) (As := [_, _, _]) ok_X12_term kw_1288 kw_1289 dX12_tree_111 rfl rfl (Nat.le_of_ble_eq_true rfl) ⟨⟨Nat.le_of_ble_eq_true rfl, Nat.le_of_ble_eq_true rfl⟩, Nat.le_of_ble_eq_true rfl, Nat.le_of_ble_eq_true rfl⟩ ?_
              refine c_X12_term (b := 1000) (by have := hu.2; omega) (by decide) (by decide) ?_
              refine pm_l2i dX12_tree_114 ?_
              refine pm_iret dX12_tree_115 rfl rfl rfl ?_
              have hcd : (0 ≤ who ∧ who ≤ 3) ∧ (0 ≤ p ∧ p ≤ 1) := ⟨⟨u, v⟩, u2, v2⟩
              refine th_r ?_ hQ
              rw [th_treeA, if_pos hf, if_pos hcd, th_n_nI (show i < 2 ^ 31 by omega), th_n_nI (show j < 2 ^ 31 by omega), th_n_nI (show k < 2 ^ 31 by omega), th_n_nI (show q < 2 ^ 31 by omega)]
          · refine pm_aload_n dX12_tree_62 rfl rfl ?_
            refine pm_iload_n dX12_tree_63 rfl rfl ?_
            refine pm_iload_n dX12_tree_64 rfl rfl ?_
            refine pm_iload_n dX12_tree_65 rfl rfl ?_
            refine pm_iload dX12_tree_66 rfl ?_
            refine pm_callV (M2 := m_X12_wins) (As := [_, _, _, _]) ok_X12_wins (ci := 12) rfl kw_1330 kw_1332 kw_41 dX12_tree_68 rfl rfl rfl (Nat.le_of_ble_eq_true rfl) ⟨⟨Nat.le_of_ble_eq_true rfl, Nat.le_of_ble_eq_true rfl⟩, Nat.le_of_ble_eq_true rfl, Nat.le_of_ble_eq_true rfl⟩ ?_
            refine c_X12_wins hI hj hi hk hq ?_
            refine pm_goto (tgt := 101) dX12_tree_71 (by decide) ?_
            have hu := th_tu_N (th_hdn A i) (th_hdn A j) (th_hdn A k) (th_hdn A q) who
            have ew : th_wi (th_hdn A j) (th_hdn A i) (th_hdn A k) (th_hdn A q) = th_tu (th_hdn A i) (th_hdn A j) (th_hdn A k) (th_hdn A q) who := (by unfold th_tu; rw [if_neg c_41, if_pos c_59])
            rw [ew, hu.1]
            refine pm_istore (lv2 := [(7, _), (0, _), (1, _), (2, _), (3, _), (4, _), (5, _), (6, _)]) dX12_tree_101 (Nat.le_of_ble_eq_true rfl) rfl ?_
            refine pm_iload dX12_tree_103 rfl ?_
            refine pm_i2l dX12_tree_105 ?_
            refine pm_ldc2 kw_1338 dX12_tree_106 ?_
            refine pm_iload dX12_tree_109 rfl ?_
            rw [nI_l hu.2]
            refine pm_callS (M2 := m_X12_term) (As := [_, _, _]) ok_X12_term kw_1288 kw_1289 dX12_tree_111 rfl rfl (Nat.le_of_ble_eq_true rfl) ⟨⟨Nat.le_of_ble_eq_true rfl, Nat.le_of_ble_eq_true rfl⟩, Nat.le_of_ble_eq_true rfl, Nat.le_of_ble_eq_true rfl⟩ ?_
            refine c_X12_term (b := 1000) (by have := hu.2; omega) (by decide) (by decide) ?_
            refine pm_l2i dX12_tree_114 ?_
            refine pm_iret dX12_tree_115 rfl rfl rfl ?_
            have hcd : (0 ≤ who ∧ who ≤ 3) ∧ (0 ≤ p ∧ p ≤ 1) := ⟨⟨u, v⟩, u2, v2⟩
            refine th_r ?_ hQ
            rw [th_treeA, if_pos hf, if_pos hcd, th_n_nI (show i < 2 ^ 31 by omega), th_n_nI (show j < 2 ^ 31 by omega), th_n_nI (show k < 2 ^ 31 by omega), th_n_nI (show q < 2 ^ 31 by omega)]
        · refine pm_aload_n dX12_tree_44 rfl rfl ?_
          refine pm_iload_n dX12_tree_45 rfl rfl ?_
          refine pm_iload_n dX12_tree_46 rfl rfl ?_
          refine pm_iload_n dX12_tree_47 rfl rfl ?_
          refine pm_iload dX12_tree_48 rfl ?_
          refine pm_callV (M2 := m_X12_wins) (As := [_, _, _, _]) ok_X12_wins (ci := 12) rfl kw_1330 kw_1332 kw_41 dX12_tree_50 rfl rfl rfl (Nat.le_of_ble_eq_true rfl) ⟨⟨Nat.le_of_ble_eq_true rfl, Nat.le_of_ble_eq_true rfl⟩, Nat.le_of_ble_eq_true rfl, Nat.le_of_ble_eq_true rfl⟩ ?_
          refine c_X12_wins hI hi hj hk hq ?_
          refine pm_goto (tgt := 101) dX12_tree_53 (by decide) ?_
          have hu := th_tu_N (th_hdn A i) (th_hdn A j) (th_hdn A k) (th_hdn A q) who
          have ew : th_wi (th_hdn A i) (th_hdn A j) (th_hdn A k) (th_hdn A q) = th_tu (th_hdn A i) (th_hdn A j) (th_hdn A k) (th_hdn A q) who := (by unfold th_tu; rw [if_pos c_41])
          rw [ew, hu.1]
          refine pm_istore (lv2 := [(7, _), (0, _), (1, _), (2, _), (3, _), (4, _), (5, _), (6, _)]) dX12_tree_101 (Nat.le_of_ble_eq_true rfl) rfl ?_
          refine pm_iload dX12_tree_103 rfl ?_
          refine pm_i2l dX12_tree_105 ?_
          refine pm_ldc2 kw_1338 dX12_tree_106 ?_
          refine pm_iload dX12_tree_109 rfl ?_
          rw [nI_l hu.2]
          refine pm_callS (M2 := m_X12_term) (As := [_, _, _]) ok_X12_term kw_1288 kw_1289 dX12_tree_111 rfl rfl (Nat.le_of_ble_eq_true rfl) ⟨⟨Nat.le_of_ble_eq_true rfl, Nat.le_of_ble_eq_true rfl⟩, Nat.le_of_ble_eq_true rfl, Nat.le_of_ble_eq_true rfl⟩ ?_
          refine c_X12_term (b := 1000) (by have := hu.2; omega) (by decide) (by decide) ?_
          refine pm_l2i dX12_tree_114 ?_
          refine pm_iret dX12_tree_115 rfl rfl rfl ?_
          have hcd : (0 ≤ who ∧ who ≤ 3) ∧ (0 ≤ p ∧ p ≤ 1) := ⟨⟨u, v⟩, u2, v2⟩
          refine th_r ?_ hQ
          rw [th_treeA, if_pos hf, if_pos hcd, th_n_nI (show i < 2 ^ 31 by omega), th_n_nI (show j < 2 ^ 31 by omega), th_n_nI (show k < 2 ^ 31 by omega), th_n_nI (show q < 2 ^ 31 by omega)]
      · refine pm_if_ne (tgt := 39) dX12_tree_33 (by decide) (fun c_33 => absurd (rfl) c_33) (fun c_33 => ?_)
        refine pm_bipush (v := (-102)) dX12_tree_36 (by decide) ?_
        refine pm_iret dX12_tree_38 rfl rfl rfl ?_
        refine th_r ?_ hQ
        rw [th_treeA, if_pos hf, if_neg (fun z => u z.2)]
    · refine pm_if_eq (tgt := 36) dX12_tree_25 (by decide) (fun c_25 => ?_) (fun c_25 => absurd (rfl) c_25)
      refine pm_bipush (v := (-102)) dX12_tree_36 (by decide) ?_
      refine pm_iret dX12_tree_38 rfl rfl rfl ?_
      refine th_r ?_ hQ
      rw [th_treeA, if_pos hf, if_neg (fun z => u z.1)]
  · refine pm_if_ne (tgt := 15) dX12_tree_9 (by decide) (fun c_9 => absurd (rfl) c_9) (fun c_9 => ?_)
    refine pm_bipush (v := (-101)) dX12_tree_12 (by decide) ?_
    refine pm_iret dX12_tree_14 rfl rfl rfl ?_
    refine th_r ?_ hQ
    rw [th_treeA, if_neg hf]

set_option maxHeartbeats 600000 in
set_option maxRecDepth 100000 in
theorem c_X12_last {l : Launch} {G : pm_G} {ad : Nat → Nat → Nat} {a0 a3 a4 a5 a6 a7 : List pm_A} {a1 a2 : Nat → Option pm_A} {S : Nat → Nat} {A : Nat → Nat → Int32} {s : Nat → Int32} {B : Nat → Nat → Int32} {hs : Int64} {Q : pm_T} {a b c d : Int32} (hI : th_I S A) (hQ : Q ad (some (.int (th_lastA S A a b c d))) (a0, a1, a2, a3, a4, a5, a6, a7, th_mp ad S A s B hs)) : pm_C l G m_X12_last [.ref (ad 8 0), .int a, .int b, .int c, .int d] ad (a0, a1, a2, a3, a4, a5, a6, a7, th_mp ad S A s B hs) Q := by
  have h8 := hI.2.2.2.2.1.1
  refine pm_met (by decide) (Nat.le_of_ble_eq_true rfl) ?_
  refine pm_aload_n dX12_last_0 rfl rfl ?_
  refine pm_iload_n dX12_last_1 rfl rfl ?_
  refine pm_iload_n dX12_last_2 rfl rfl ?_
  refine pm_iload_n dX12_last_3 rfl rfl ?_
  refine pm_iload dX12_last_4 rfl ?_
  refine pm_callV (M2 := m_X12_areFour) (As := [_, _, _, _]) ok_X12_areFour (ci := 12) rfl kw_1326 kw_1328 kw_40 dX12_last_6 rfl rfl rfl (Nat.le_of_ble_eq_true rfl) ⟨⟨Nat.le_of_ble_eq_true rfl, Nat.le_of_ble_eq_true rfl⟩, Nat.le_of_ble_eq_true rfl, Nat.le_of_ble_eq_true rfl⟩ ?_
  refine c_X12_areFour h8 (fun i j k q hi hj hk hq ea eb ec ed hf => ?_) (fun hf => ?_)
  · subst ea eb ec ed
    obtain ⟨⟨ki, hki, ei⟩, -⟩ := th_nk hI hi
    have hdi : th_hdn A i = pm_hd ki (A 8 i) := by rw [th_hdn, ei, th_n_nI (by omega)]
    obtain ⟨⟨kj, hkj, ej⟩, -⟩ := th_nk hI hj
    have hdj : th_hdn A j = pm_hd kj (A 8 j) := by rw [th_hdn, ej, th_n_nI (by omega)]
    obtain ⟨⟨kk, hkk, ek⟩, -⟩ := th_nk hI hk
    have hdk : th_hdn A k = pm_hd kk (A 8 k) := by rw [th_hdn, ek, th_n_nI (by omega)]
    obtain ⟨⟨kq, hkq, eq⟩, -⟩ := th_nk hI hq
    have hdq : th_hdn A q = pm_hd kq (A 8 q) := by rw [th_hdn, eq, th_n_nI (by omega)]
    refine pm_if_ne (tgt := 15) dX12_last_9 (by decide) (fun c_9 => ?_) (fun c_9 => absurd c_9 (by decide))
    refine pm_aload_n dX12_last_15 rfl rfl ?_
    refine pm_iload_n dX12_last_16 rfl rfl ?_
    refine pm_iload dX12_last_17 rfl ?_
    refine pm_callV (M2 := m_X12_tenths) (As := [_, _]) ok_X12_tenths (ci := 12) rfl kw_1334 kw_1336 kw_42 dX12_last_19 rfl rfl rfl (Nat.le_of_ble_eq_true rfl) ⟨⟨Nat.le_of_ble_eq_true rfl, Nat.le_of_ble_eq_true rfl⟩, Nat.le_of_ble_eq_true rfl, Nat.le_of_ble_eq_true rfl⟩ ?_
    refine c_X12_tenths (by omega) (by omega) hki hkq ei eq ?_
    rw [← hdi, ← hdq]
    refine pm_aload_n dX12_last_22 rfl rfl ?_
    refine pm_iload_n dX12_last_23 rfl rfl ?_
    refine pm_iload_n dX12_last_24 rfl rfl ?_
    refine pm_callV (M2 := m_X12_tenths) (As := [_, _]) ok_X12_tenths (ci := 12) rfl kw_1334 kw_1336 kw_42 dX12_last_25 rfl rfl rfl (Nat.le_of_ble_eq_true rfl) ⟨⟨Nat.le_of_ble_eq_true rfl, Nat.le_of_ble_eq_true rfl⟩, Nat.le_of_ble_eq_true rfl, Nat.le_of_ble_eq_true rfl⟩ ?_
    refine c_X12_tenths (by omega) (by omega) hkj hkk ej ek ?_
    rw [← hdj, ← hdk]
    refine pm_imul dX12_last_28 ?_
    refine pm_aload_n dX12_last_29 rfl rfl ?_
    refine pm_iload_n dX12_last_30 rfl rfl ?_
    refine pm_iload_n dX12_last_31 rfl rfl ?_
    refine pm_callV (M2 := m_X12_tenths) (As := [_, _]) ok_X12_tenths (ci := 12) rfl kw_1334 kw_1336 kw_42 dX12_last_32 rfl rfl rfl (Nat.le_of_ble_eq_true rfl) ⟨⟨Nat.le_of_ble_eq_true rfl, Nat.le_of_ble_eq_true rfl⟩, Nat.le_of_ble_eq_true rfl, Nat.le_of_ble_eq_true rfl⟩ ?_
    refine c_X12_tenths (by omega) (by omega) hki hkk ei ek ?_
    rw [← hdi, ← hdk]
    refine pm_aload_n dX12_last_35 rfl rfl ?_
    refine pm_iload_n dX12_last_36 rfl rfl ?_
    refine pm_iload dX12_last_37 rfl ?_
    refine pm_callV (M2 := m_X12_tenths) (As := [_, _]) ok_X12_tenths (ci := 12) rfl kw_1334 kw_1336 kw_42 dX12_last_39 rfl rfl rfl (Nat.le_of_ble_eq_true rfl) ⟨⟨Nat.le_of_ble_eq_true rfl, Nat.le_of_ble_eq_true rfl⟩, Nat.le_of_ble_eq_true rfl, Nat.le_of_ble_eq_true rfl⟩ ?_
    refine c_X12_tenths (by omega) (by omega) hkj hkq ej eq ?_
    rw [← hdj, ← hdq]
    refine pm_imul dX12_last_42 ?_
    refine pm_icmp_le (tgt := 50) dX12_last_43 (by decide) (fun c_43 => ?_) (fun c_43 => ?_)
    · refine pm_iconst (v := 1) dX12_last_50 (by decide) ?_
      refine pm_iret dX12_last_51 rfl rfl rfl ?_
      refine th_r ?_ hQ
      rw [th_lastA, if_pos hf, th_n_nI (show i < 2 ^ 31 by omega), th_n_nI (show j < 2 ^ 31 by omega), th_n_nI (show k < 2 ^ 31 by omega), th_n_nI (show q < 2 ^ 31 by omega), th_lst, if_pos c_43]
    · refine pm_iconst (v := 2) dX12_last_46 (by decide) ?_
      refine pm_goto (tgt := 51) dX12_last_47 (by decide) ?_
      refine pm_iret dX12_last_51 rfl rfl rfl ?_
      refine th_r ?_ hQ
      rw [th_lastA, if_pos hf, th_n_nI (show i < 2 ^ 31 by omega), th_n_nI (show j < 2 ^ 31 by omega), th_n_nI (show k < 2 ^ 31 by omega), th_n_nI (show q < 2 ^ 31 by omega), th_lst, if_neg c_43]
  · refine pm_if_ne (tgt := 15) dX12_last_9 (by decide) (fun c_9 => absurd (rfl) c_9) (fun c_9 => ?_)
    refine pm_bipush (v := (-101)) dX12_last_12 (by decide) ?_
    refine pm_iret dX12_last_14 rfl rfl rfl ?_
    refine th_r ?_ hQ
    rw [th_lastA, if_neg hf]

set_option maxHeartbeats 600000 in
set_option maxRecDepth 100000 in
theorem f_X11_ts0 {l : Launch} {G : pm_G} {ad : Nat → Nat → Nat} {S : Nat → Nat} {A : Nat → Nat → Int32} {X : Nat → Int32} {Y : Nat → Nat → Int32} {F : Nat → Int64} {Hd Cs : Nat → Option Nat} {m : List pm_A} {Q : pm_T} {a b c d : Int32} (hI : th_I S A) (hd : ¬ a = b ∧ ¬ a = c ∧ ¬ a = d ∧ ¬ b = c ∧ ¬ b = d ∧ ¬ c = d) (h1 : ∀ i j k q, i < S 11 → j < S 11 → k < S 11 → q < S 11 → a = nI i → b = nI j → c = nI k → d = nI q → th_f4 (S 11) a b c d → ∀ y, y 0 = th_hdn A i → y 1 = th_hdn A j → y 2 = th_hdn A k → y 3 = th_hdn A q → Q ad (some (.int 1)) (th_cw ad S A X (va_up Y 0 y) F Hd Cs m)) (h0 : ¬ th_f4 (S 11) a b c d → Q ad (some (.int 0)) (th_cw ad S A X Y F Hd Cs m)) : pm_W l G m_X11_takeSeats ad 38 [(0, .ref (ad 0 0)), (1, .int a), (2, .int b), (3, .int c), (4, .int d)] [.int 0] (th_cw ad S A X Y F Hd Cs m) 0 0 Q := by
  have h8 := hI.2.2.2.2.1.1
  refine pm_istore (lv2 := [(5, _), (0, _), (1, _), (2, _), (3, _), (4, _)]) dX11_takeSeats_38 (Nat.le_of_ble_eq_true rfl) rfl ?_
  refine pm_aload_n dX11_takeSeats_40 rfl rfl ?_
  refine pm_iload_n dX11_takeSeats_41 rfl rfl ?_
  refine pm_callV (M2 := m_X11_nutOf) (As := [_]) ok_X11_nutOf (ci := 11) rfl kw_545 kw_547 kw_5 dX11_takeSeats_42 rfl rfl rfl (Nat.le_of_ble_eq_true rfl) ⟨⟨Nat.le_of_ble_eq_true rfl, Nat.le_of_ble_eq_true rfl⟩, Nat.le_of_ble_eq_true rfl, Nat.le_of_ble_eq_true rfl⟩ ?_
  refine c_X11_nutOf h8 (fun i hi e_i => ?_) (fun hn0 => ?_)
  · subst e_i
    obtain ⟨⟨ki, hki, ei⟩, -⟩ := th_nk hI hi
    have hwi : th_g2 ad S A Y i = some (.inr (pm_kc (th_n (A 6 i)), th_nf ad A Y i)) := th_nt_get hi
    rw [ei, th_n_nI (by omega)] at hwi
    have hdi : th_hdn A i = pm_hd ki (A 8 i) := by rw [th_hdn, ei, th_n_nI (by omega)]
    refine pm_astore (lv2 := [(6, _), (5, _), (0, _), (1, _), (2, _), (3, _), (4, _)]) dX11_takeSeats_45 (Nat.le_of_ble_eq_true rfl) rfl ?_
    refine pm_aload_n dX11_takeSeats_47 rfl rfl ?_
    refine pm_iload_n dX11_takeSeats_48 rfl rfl ?_
    refine pm_callV (M2 := m_X11_nutOf) (As := [_]) ok_X11_nutOf (ci := 11) rfl kw_545 kw_547 kw_5 dX11_takeSeats_49 rfl rfl rfl (Nat.le_of_ble_eq_true rfl) ⟨⟨Nat.le_of_ble_eq_true rfl, Nat.le_of_ble_eq_true rfl⟩, Nat.le_of_ble_eq_true rfl, Nat.le_of_ble_eq_true rfl⟩ ?_
    refine c_X11_nutOf h8 (fun j hj e_j => ?_) (fun hn1 => ?_)
    · subst e_j
      obtain ⟨⟨kj, hkj, ej⟩, -⟩ := th_nk hI hj
      have hwj : th_g2 ad S A Y j = some (.inr (pm_kc (th_n (A 6 j)), th_nf ad A Y j)) := th_nt_get hj
      rw [ej, th_n_nI (by omega)] at hwj
      have hdj : th_hdn A j = pm_hd kj (A 8 j) := by rw [th_hdn, ej, th_n_nI (by omega)]
      refine pm_astore (lv2 := [(7, _), (6, _), (5, _), (0, _), (1, _), (2, _), (3, _), (4, _)]) dX11_takeSeats_52 (Nat.le_of_ble_eq_true rfl) rfl ?_
      refine pm_aload_n dX11_takeSeats_54 rfl rfl ?_
      refine pm_iload_n dX11_takeSeats_55 rfl rfl ?_
      refine pm_callV (M2 := m_X11_nutOf) (As := [_]) ok_X11_nutOf (ci := 11) rfl kw_545 kw_547 kw_5 dX11_takeSeats_56 rfl rfl rfl (Nat.le_of_ble_eq_true rfl) ⟨⟨Nat.le_of_ble_eq_true rfl, Nat.le_of_ble_eq_true rfl⟩, Nat.le_of_ble_eq_true rfl, Nat.le_of_ble_eq_true rfl⟩ ?_
      refine c_X11_nutOf h8 (fun k hk e_k => ?_) (fun hn2 => ?_)
      · subst e_k
        obtain ⟨⟨kk, hkk, ek⟩, -⟩ := th_nk hI hk
        have hwk : th_g2 ad S A Y k = some (.inr (pm_kc (th_n (A 6 k)), th_nf ad A Y k)) := th_nt_get hk
        rw [ek, th_n_nI (by omega)] at hwk
        have hdk : th_hdn A k = pm_hd kk (A 8 k) := by rw [th_hdn, ek, th_n_nI (by omega)]
        refine pm_astore (lv2 := [(8, _), (7, _), (6, _), (5, _), (0, _), (1, _), (2, _), (3, _), (4, _)]) dX11_takeSeats_59 (Nat.le_of_ble_eq_true rfl) rfl ?_
        refine pm_aload_n dX11_takeSeats_61 rfl rfl ?_
        refine pm_iload dX11_takeSeats_62 rfl ?_
        refine pm_callV (M2 := m_X11_nutOf) (As := [_]) ok_X11_nutOf (ci := 11) rfl kw_545 kw_547 kw_5 dX11_takeSeats_64 rfl rfl rfl (Nat.le_of_ble_eq_true rfl) ⟨⟨Nat.le_of_ble_eq_true rfl, Nat.le_of_ble_eq_true rfl⟩, Nat.le_of_ble_eq_true rfl, Nat.le_of_ble_eq_true rfl⟩ ?_
        refine c_X11_nutOf h8 (fun q hq e_q => ?_) (fun hn3 => ?_)
        · subst e_q
          obtain ⟨⟨kq, hkq, eq⟩, -⟩ := th_nk hI hq
          have hwq : th_g2 ad S A Y q = some (.inr (pm_kc (th_n (A 6 q)), th_nf ad A Y q)) := th_nt_get hq
          rw [eq, th_n_nI (by omega)] at hwq
          have hdq : th_hdn A q = pm_hd kq (A 8 q) := by rw [th_hdn, eq, th_n_nI (by omega)]
          refine pm_astore (lv2 := [(9, _), (8, _), (7, _), (6, _), (5, _), (0, _), (1, _), (2, _), (3, _), (4, _)]) dX11_takeSeats_67 (Nat.le_of_ble_eq_true rfl) rfl ?_
          refine pm_iload dX11_takeSeats_69 rfl ?_
          refine pm_if_ne (tgt := 94) dX11_takeSeats_71 (by decide) (fun c_71 => absurd (rfl) c_71) (fun c_71 => ?_)
          refine pm_aload dX11_takeSeats_74 rfl ?_
          refine pm_ifnull dX11_takeSeats_76 ?_
          refine pm_aload dX11_takeSeats_79 rfl ?_
          refine pm_ifnull dX11_takeSeats_81 ?_
          refine pm_aload dX11_takeSeats_84 rfl ?_
          refine pm_ifnull dX11_takeSeats_86 ?_
          refine pm_aload dX11_takeSeats_89 rfl ?_
          refine pm_ifnonnull (tgt := 96) dX11_takeSeats_91 (by decide) ?_
          refine pm_aload_n dX11_takeSeats_96 rfl rfl ?_
          refine pm_get fl_RX11_56_11 dX11_takeSeats_97 rfl rfl ?_
          refine pm_iconst (v := 0) dX11_takeSeats_100 (by decide) ?_
          refine pm_aload dX11_takeSeats_101 rfl ?_
          refine cn_RX11_308 (M := m_X11_takeSeats) (st := []) dX11_takeSeats_103 (show pm_get? _ 2 i = _ from hwi) rfl (Nat.le_of_ble_eq_true rfl) ⟨⟨Nat.le_of_ble_eq_true rfl, Nat.le_of_ble_eq_true rfl⟩, Nat.le_of_ble_eq_true rfl, Nat.le_of_ble_eq_true rfl⟩ ?_
          refine pm_iast (w2 := ([_, _, _, _], _, _, _, _, _, _, _, _)) dX11_takeSeats_106 rfl (th_in (n := 0) (by decide) (by decide)) rfl ?_
          refine pm_aload_n dX11_takeSeats_107 rfl rfl ?_
          refine pm_get fl_RX11_56_11 dX11_takeSeats_108 rfl rfl ?_
          refine pm_iconst (v := 1) dX11_takeSeats_111 (by decide) ?_
          refine pm_aload dX11_takeSeats_112 rfl ?_
          refine cn_RX11_308 (M := m_X11_takeSeats) (st := []) dX11_takeSeats_114 (show pm_get? _ 2 j = _ from hwj) rfl (Nat.le_of_ble_eq_true rfl) ⟨⟨Nat.le_of_ble_eq_true rfl, Nat.le_of_ble_eq_true rfl⟩, Nat.le_of_ble_eq_true rfl, Nat.le_of_ble_eq_true rfl⟩ ?_
          refine pm_iast (w2 := ([_, _, _, _], _, _, _, _, _, _, _, _)) dX11_takeSeats_117 rfl (th_in (n := 1) (by decide) (by decide)) rfl ?_
          refine pm_aload_n dX11_takeSeats_118 rfl rfl ?_
          refine pm_get fl_RX11_56_11 dX11_takeSeats_119 rfl rfl ?_
          refine pm_iconst (v := 2) dX11_takeSeats_122 (by decide) ?_
          refine pm_aload dX11_takeSeats_123 rfl ?_
          refine cn_RX11_308 (M := m_X11_takeSeats) (st := []) dX11_takeSeats_125 (show pm_get? _ 2 k = _ from hwk) rfl (Nat.le_of_ble_eq_true rfl) ⟨⟨Nat.le_of_ble_eq_true rfl, Nat.le_of_ble_eq_true rfl⟩, Nat.le_of_ble_eq_true rfl, Nat.le_of_ble_eq_true rfl⟩ ?_
          refine pm_iast (w2 := ([_, _, _, _], _, _, _, _, _, _, _, _)) dX11_takeSeats_128 rfl (th_in (n := 2) (by decide) (by decide)) rfl ?_
          refine pm_aload_n dX11_takeSeats_129 rfl rfl ?_
          refine pm_get fl_RX11_56_11 dX11_takeSeats_130 rfl rfl ?_
          refine pm_iconst (v := 3) dX11_takeSeats_133 (by decide) ?_
          refine pm_aload dX11_takeSeats_134 rfl ?_
          refine cn_RX11_308 (M := m_X11_takeSeats) (st := []) dX11_takeSeats_136 (show pm_get? _ 2 q = _ from hwq) rfl (Nat.le_of_ble_eq_true rfl) ⟨⟨Nat.le_of_ble_eq_true rfl, Nat.le_of_ble_eq_true rfl⟩, Nat.le_of_ble_eq_true rfl, Nat.le_of_ble_eq_true rfl⟩ ?_
          refine pm_iast (w2 := ([_, _, _, _], _, _, _, _, _, _, _, _)) dX11_takeSeats_139 rfl (th_in (n := 3) (by decide) (by decide)) rfl ?_
          refine pm_iconst (v := 1) dX11_takeSeats_140 (by decide) ?_
          refine pm_zret dX11_takeSeats_141 rfl rfl rfl rfl ?_
          exact h1 i j k q hi hj hk hq rfl rfl rfl rfl ⟨th_okt hi (by omega), th_okt hj (by omega), th_okt hk (by omega), th_okt hq (by omega), hd⟩ (upd (upd (upd (upd (Y 0) 0 (pm_hd ki (A 8 i))) 1 (pm_hd kj (A 8 j))) 2 (pm_hd kk (A 8 k))) 3 (pm_hd kq (A 8 q))) hdi.symm hdj.symm hdk.symm hdq.symm
        · refine pm_nstore (lv2 := [(9, _), (8, _), (7, _), (6, _), (5, _), (0, _), (1, _), (2, _), (3, _), (4, _)]) dX11_takeSeats_67 (Nat.le_of_ble_eq_true rfl) rfl ?_
          refine pm_iload dX11_takeSeats_69 rfl ?_
          refine pm_if_ne (tgt := 94) dX11_takeSeats_71 (by decide) (fun c_71 => absurd (rfl) c_71) (fun c_71 => ?_)
          refine pm_aload dX11_takeSeats_74 rfl ?_
          refine pm_ifnull dX11_takeSeats_76 ?_
          refine pm_aload dX11_takeSeats_79 rfl ?_
          refine pm_ifnull dX11_takeSeats_81 ?_
          refine pm_aload dX11_takeSeats_84 rfl ?_
          refine pm_ifnull dX11_takeSeats_86 ?_
          refine pm_nload dX11_takeSeats_89 rfl ?_
          refine pm_ifnonnullN dX11_takeSeats_91 ?_
          refine pm_iconst (v := 0) dX11_takeSeats_94 (by decide) ?_
          refine pm_zret dX11_takeSeats_95 rfl rfl rfl rfl ?_
          exact h0 (fun z => th_okf hn3 (by omega) z.2.2.2.1)
      · refine pm_nstore (lv2 := [(8, _), (7, _), (6, _), (5, _), (0, _), (1, _), (2, _), (3, _), (4, _)]) dX11_takeSeats_59 (Nat.le_of_ble_eq_true rfl) rfl ?_
        refine pm_aload_n dX11_takeSeats_61 rfl rfl ?_
        refine pm_iload dX11_takeSeats_62 rfl ?_
        refine pm_callV (M2 := m_X11_nutOf) (As := [_]) ok_X11_nutOf (ci := 11) rfl kw_545 kw_547 kw_5 dX11_takeSeats_64 rfl rfl rfl (Nat.le_of_ble_eq_true rfl) ⟨⟨Nat.le_of_ble_eq_true rfl, Nat.le_of_ble_eq_true rfl⟩, Nat.le_of_ble_eq_true rfl, Nat.le_of_ble_eq_true rfl⟩ ?_
        refine c_X11_nutOf h8 (fun q hq e_q => ?_) (fun hn3 => ?_)
        · subst e_q
          obtain ⟨⟨kq, hkq, eq⟩, -⟩ := th_nk hI hq
          have hwq : th_g2 ad S A Y q = some (.inr (pm_kc (th_n (A 6 q)), th_nf ad A Y q)) := th_nt_get hq
          rw [eq, th_n_nI (by omega)] at hwq
          have hdq : th_hdn A q = pm_hd kq (A 8 q) := by rw [th_hdn, eq, th_n_nI (by omega)]
          refine pm_astore (lv2 := [(9, _), (8, _), (7, _), (6, _), (5, _), (0, _), (1, _), (2, _), (3, _), (4, _)]) dX11_takeSeats_67 (Nat.le_of_ble_eq_true rfl) rfl ?_
          refine pm_iload dX11_takeSeats_69 rfl ?_
          refine pm_if_ne (tgt := 94) dX11_takeSeats_71 (by decide) (fun c_71 => absurd (rfl) c_71) (fun c_71 => ?_)
          refine pm_aload dX11_takeSeats_74 rfl ?_
          refine pm_ifnull dX11_takeSeats_76 ?_
          refine pm_aload dX11_takeSeats_79 rfl ?_
          refine pm_ifnull dX11_takeSeats_81 ?_
          refine pm_nload dX11_takeSeats_84 rfl ?_
          refine pm_ifnullN (tgt := 94) dX11_takeSeats_86 (by decide) ?_
          refine pm_iconst (v := 0) dX11_takeSeats_94 (by decide) ?_
          refine pm_zret dX11_takeSeats_95 rfl rfl rfl rfl ?_
          exact h0 (fun z => th_okf hn2 (by omega) z.2.2.1)
        · refine pm_nstore (lv2 := [(9, _), (8, _), (7, _), (6, _), (5, _), (0, _), (1, _), (2, _), (3, _), (4, _)]) dX11_takeSeats_67 (Nat.le_of_ble_eq_true rfl) rfl ?_
          refine pm_iload dX11_takeSeats_69 rfl ?_
          refine pm_if_ne (tgt := 94) dX11_takeSeats_71 (by decide) (fun c_71 => absurd (rfl) c_71) (fun c_71 => ?_)
          refine pm_aload dX11_takeSeats_74 rfl ?_
          refine pm_ifnull dX11_takeSeats_76 ?_
          refine pm_aload dX11_takeSeats_79 rfl ?_
          refine pm_ifnull dX11_takeSeats_81 ?_
          refine pm_nload dX11_takeSeats_84 rfl ?_
          refine pm_ifnullN (tgt := 94) dX11_takeSeats_86 (by decide) ?_
          refine pm_iconst (v := 0) dX11_takeSeats_94 (by decide) ?_
          refine pm_zret dX11_takeSeats_95 rfl rfl rfl rfl ?_
          exact h0 (fun z => th_okf hn2 (by omega) z.2.2.1)
    · refine pm_nstore (lv2 := [(7, _), (6, _), (5, _), (0, _), (1, _), (2, _), (3, _), (4, _)]) dX11_takeSeats_52 (Nat.le_of_ble_eq_true rfl) rfl ?_
      refine pm_aload_n dX11_takeSeats_54 rfl rfl ?_
      refine pm_iload_n dX11_takeSeats_55 rfl rfl ?_
      refine pm_callV (M2 := m_X11_nutOf) (As := [_]) ok_X11_nutOf (ci := 11) rfl kw_545 kw_547 kw_5 dX11_takeSeats_56 rfl rfl rfl (Nat.le_of_ble_eq_true rfl) ⟨⟨Nat.le_of_ble_eq_true rfl, Nat.le_of_ble_eq_true rfl⟩, Nat.le_of_ble_eq_true rfl, Nat.le_of_ble_eq_true rfl⟩ ?_
      refine c_X11_nutOf h8 (fun k hk e_k => ?_) (fun hn2 => ?_)
      · subst e_k
        obtain ⟨⟨kk, hkk, ek⟩, -⟩ := th_nk hI hk
        have hwk : th_g2 ad S A Y k = some (.inr (pm_kc (th_n (A 6 k)), th_nf ad A Y k)) := th_nt_get hk
        rw [ek, th_n_nI (by omega)] at hwk
        have hdk : th_hdn A k = pm_hd kk (A 8 k) := by rw [th_hdn, ek, th_n_nI (by omega)]
        refine pm_astore (lv2 := [(8, _), (7, _), (6, _), (5, _), (0, _), (1, _), (2, _), (3, _), (4, _)]) dX11_takeSeats_59 (Nat.le_of_ble_eq_true rfl) rfl ?_
        refine pm_aload_n dX11_takeSeats_61 rfl rfl ?_
        refine pm_iload dX11_takeSeats_62 rfl ?_
        refine pm_callV (M2 := m_X11_nutOf) (As := [_]) ok_X11_nutOf (ci := 11) rfl kw_545 kw_547 kw_5 dX11_takeSeats_64 rfl rfl rfl (Nat.le_of_ble_eq_true rfl) ⟨⟨Nat.le_of_ble_eq_true rfl, Nat.le_of_ble_eq_true rfl⟩, Nat.le_of_ble_eq_true rfl, Nat.le_of_ble_eq_true rfl⟩ ?_
        refine c_X11_nutOf h8 (fun q hq e_q => ?_) (fun hn3 => ?_)
        · subst e_q
          obtain ⟨⟨kq, hkq, eq⟩, -⟩ := th_nk hI hq
          have hwq : th_g2 ad S A Y q = some (.inr (pm_kc (th_n (A 6 q)), th_nf ad A Y q)) := th_nt_get hq
          rw [eq, th_n_nI (by omega)] at hwq
          have hdq : th_hdn A q = pm_hd kq (A 8 q) := by rw [th_hdn, eq, th_n_nI (by omega)]
          refine pm_astore (lv2 := [(9, _), (8, _), (7, _), (6, _), (5, _), (0, _), (1, _), (2, _), (3, _), (4, _)]) dX11_takeSeats_67 (Nat.le_of_ble_eq_true rfl) rfl ?_
          refine pm_iload dX11_takeSeats_69 rfl ?_
          refine pm_if_ne (tgt := 94) dX11_takeSeats_71 (by decide) (fun c_71 => absurd (rfl) c_71) (fun c_71 => ?_)
          refine pm_aload dX11_takeSeats_74 rfl ?_
          refine pm_ifnull dX11_takeSeats_76 ?_
          refine pm_nload dX11_takeSeats_79 rfl ?_
          refine pm_ifnullN (tgt := 94) dX11_takeSeats_81 (by decide) ?_
          refine pm_iconst (v := 0) dX11_takeSeats_94 (by decide) ?_
          refine pm_zret dX11_takeSeats_95 rfl rfl rfl rfl ?_
          exact h0 (fun z => th_okf hn1 (by omega) z.2.1)
        · refine pm_nstore (lv2 := [(9, _), (8, _), (7, _), (6, _), (5, _), (0, _), (1, _), (2, _), (3, _), (4, _)]) dX11_takeSeats_67 (Nat.le_of_ble_eq_true rfl) rfl ?_
          refine pm_iload dX11_takeSeats_69 rfl ?_
          refine pm_if_ne (tgt := 94) dX11_takeSeats_71 (by decide) (fun c_71 => absurd (rfl) c_71) (fun c_71 => ?_)
          refine pm_aload dX11_takeSeats_74 rfl ?_
          refine pm_ifnull dX11_takeSeats_76 ?_
          refine pm_nload dX11_takeSeats_79 rfl ?_
          refine pm_ifnullN (tgt := 94) dX11_takeSeats_81 (by decide) ?_
          refine pm_iconst (v := 0) dX11_takeSeats_94 (by decide) ?_
          refine pm_zret dX11_takeSeats_95 rfl rfl rfl rfl ?_
          exact h0 (fun z => th_okf hn1 (by omega) z.2.1)
      · refine pm_nstore (lv2 := [(8, _), (7, _), (6, _), (5, _), (0, _), (1, _), (2, _), (3, _), (4, _)]) dX11_takeSeats_59 (Nat.le_of_ble_eq_true rfl) rfl ?_
        refine pm_aload_n dX11_takeSeats_61 rfl rfl ?_
        refine pm_iload dX11_takeSeats_62 rfl ?_
        refine pm_callV (M2 := m_X11_nutOf) (As := [_]) ok_X11_nutOf (ci := 11) rfl kw_545 kw_547 kw_5 dX11_takeSeats_64 rfl rfl rfl (Nat.le_of_ble_eq_true rfl) ⟨⟨Nat.le_of_ble_eq_true rfl, Nat.le_of_ble_eq_true rfl⟩, Nat.le_of_ble_eq_true rfl, Nat.le_of_ble_eq_true rfl⟩ ?_
        refine c_X11_nutOf h8 (fun q hq e_q => ?_) (fun hn3 => ?_)
        · subst e_q
          obtain ⟨⟨kq, hkq, eq⟩, -⟩ := th_nk hI hq
          have hwq : th_g2 ad S A Y q = some (.inr (pm_kc (th_n (A 6 q)), th_nf ad A Y q)) := th_nt_get hq
          rw [eq, th_n_nI (by omega)] at hwq
          have hdq : th_hdn A q = pm_hd kq (A 8 q) := by rw [th_hdn, eq, th_n_nI (by omega)]
          refine pm_astore (lv2 := [(9, _), (8, _), (7, _), (6, _), (5, _), (0, _), (1, _), (2, _), (3, _), (4, _)]) dX11_takeSeats_67 (Nat.le_of_ble_eq_true rfl) rfl ?_
          refine pm_iload dX11_takeSeats_69 rfl ?_
          refine pm_if_ne (tgt := 94) dX11_takeSeats_71 (by decide) (fun c_71 => absurd (rfl) c_71) (fun c_71 => ?_)
          refine pm_aload dX11_takeSeats_74 rfl ?_
          refine pm_ifnull dX11_takeSeats_76 ?_
          refine pm_nload dX11_takeSeats_79 rfl ?_
          refine pm_ifnullN (tgt := 94) dX11_takeSeats_81 (by decide) ?_
          refine pm_iconst (v := 0) dX11_takeSeats_94 (by decide) ?_
          refine pm_zret dX11_takeSeats_95 rfl rfl rfl rfl ?_
          exact h0 (fun z => th_okf hn1 (by omega) z.2.1)
        · refine pm_nstore (lv2 := [(9, _), (8, _), (7, _), (6, _), (5, _), (0, _), (1, _), (2, _), (3, _), (4, _)]) dX11_takeSeats_67 (Nat.le_of_ble_eq_true rfl) rfl ?_
          refine pm_iload dX11_takeSeats_69 rfl ?_
          refine pm_if_ne (tgt := 94) dX11_takeSeats_71 (by decide) (fun c_71 => absurd (rfl) c_71) (fun c_71 => ?_)
          refine pm_aload dX11_takeSeats_74 rfl ?_
          refine pm_ifnull dX11_takeSeats_76 ?_
          refine pm_nload dX11_takeSeats_79 rfl ?_
          refine pm_ifnullN (tgt := 94) dX11_takeSeats_81 (by decide) ?_
          refine pm_iconst (v := 0) dX11_takeSeats_94 (by decide) ?_
          refine pm_zret dX11_takeSeats_95 rfl rfl rfl rfl ?_
          exact h0 (fun z => th_okf hn1 (by omega) z.2.1)
  · refine pm_nstore (lv2 := [(6, _), (5, _), (0, _), (1, _), (2, _), (3, _), (4, _)]) dX11_takeSeats_45 (Nat.le_of_ble_eq_true rfl) rfl ?_
    refine pm_aload_n dX11_takeSeats_47 rfl rfl ?_
    refine pm_iload_n dX11_takeSeats_48 rfl rfl ?_
    refine pm_callV (M2 := m_X11_nutOf) (As := [_]) ok_X11_nutOf (ci := 11) rfl kw_545 kw_547 kw_5 dX11_takeSeats_49 rfl rfl rfl (Nat.le_of_ble_eq_true rfl) ⟨⟨Nat.le_of_ble_eq_true rfl, Nat.le_of_ble_eq_true rfl⟩, Nat.le_of_ble_eq_true rfl, Nat.le_of_ble_eq_true rfl⟩ ?_
    refine c_X11_nutOf h8 (fun j hj e_j => ?_) (fun hn1 => ?_)
    · subst e_j
      obtain ⟨⟨kj, hkj, ej⟩, -⟩ := th_nk hI hj
      have hwj : th_g2 ad S A Y j = some (.inr (pm_kc (th_n (A 6 j)), th_nf ad A Y j)) := th_nt_get hj
      rw [ej, th_n_nI (by omega)] at hwj
      have hdj : th_hdn A j = pm_hd kj (A 8 j) := by rw [th_hdn, ej, th_n_nI (by omega)]
      refine pm_astore (lv2 := [(7, _), (6, _), (5, _), (0, _), (1, _), (2, _), (3, _), (4, _)]) dX11_takeSeats_52 (Nat.le_of_ble_eq_true rfl) rfl ?_
      refine pm_aload_n dX11_takeSeats_54 rfl rfl ?_
      refine pm_iload_n dX11_takeSeats_55 rfl rfl ?_
      refine pm_callV (M2 := m_X11_nutOf) (As := [_]) ok_X11_nutOf (ci := 11) rfl kw_545 kw_547 kw_5 dX11_takeSeats_56 rfl rfl rfl (Nat.le_of_ble_eq_true rfl) ⟨⟨Nat.le_of_ble_eq_true rfl, Nat.le_of_ble_eq_true rfl⟩, Nat.le_of_ble_eq_true rfl, Nat.le_of_ble_eq_true rfl⟩ ?_
      refine c_X11_nutOf h8 (fun k hk e_k => ?_) (fun hn2 => ?_)
      · subst e_k
        obtain ⟨⟨kk, hkk, ek⟩, -⟩ := th_nk hI hk
        have hwk : th_g2 ad S A Y k = some (.inr (pm_kc (th_n (A 6 k)), th_nf ad A Y k)) := th_nt_get hk
        rw [ek, th_n_nI (by omega)] at hwk
        have hdk : th_hdn A k = pm_hd kk (A 8 k) := by rw [th_hdn, ek, th_n_nI (by omega)]
        refine pm_astore (lv2 := [(8, _), (7, _), (6, _), (5, _), (0, _), (1, _), (2, _), (3, _), (4, _)]) dX11_takeSeats_59 (Nat.le_of_ble_eq_true rfl) rfl ?_
        refine pm_aload_n dX11_takeSeats_61 rfl rfl ?_
        refine pm_iload dX11_takeSeats_62 rfl ?_
        refine pm_callV (M2 := m_X11_nutOf) (As := [_]) ok_X11_nutOf (ci := 11) rfl kw_545 kw_547 kw_5 dX11_takeSeats_64 rfl rfl rfl (Nat.le_of_ble_eq_true rfl) ⟨⟨Nat.le_of_ble_eq_true rfl, Nat.le_of_ble_eq_true rfl⟩, Nat.le_of_ble_eq_true rfl, Nat.le_of_ble_eq_true rfl⟩ ?_
        refine c_X11_nutOf h8 (fun q hq e_q => ?_) (fun hn3 => ?_)
        · subst e_q
          obtain ⟨⟨kq, hkq, eq⟩, -⟩ := th_nk hI hq
          have hwq : th_g2 ad S A Y q = some (.inr (pm_kc (th_n (A 6 q)), th_nf ad A Y q)) := th_nt_get hq
          rw [eq, th_n_nI (by omega)] at hwq
          have hdq : th_hdn A q = pm_hd kq (A 8 q) := by rw [th_hdn, eq, th_n_nI (by omega)]
          refine pm_astore (lv2 := [(9, _), (8, _), (7, _), (6, _), (5, _), (0, _), (1, _), (2, _), (3, _), (4, _)]) dX11_takeSeats_67 (Nat.le_of_ble_eq_true rfl) rfl ?_
          refine pm_iload dX11_takeSeats_69 rfl ?_
          refine pm_if_ne (tgt := 94) dX11_takeSeats_71 (by decide) (fun c_71 => absurd (rfl) c_71) (fun c_71 => ?_)
          refine pm_nload dX11_takeSeats_74 rfl ?_
          refine pm_ifnullN (tgt := 94) dX11_takeSeats_76 (by decide) ?_
          refine pm_iconst (v := 0) dX11_takeSeats_94 (by decide) ?_
          refine pm_zret dX11_takeSeats_95 rfl rfl rfl rfl ?_
          exact h0 (fun z => th_okf hn0 (by omega) z.1)
        · refine pm_nstore (lv2 := [(9, _), (8, _), (7, _), (6, _), (5, _), (0, _), (1, _), (2, _), (3, _), (4, _)]) dX11_takeSeats_67 (Nat.le_of_ble_eq_true rfl) rfl ?_
          refine pm_iload dX11_takeSeats_69 rfl ?_
          refine pm_if_ne (tgt := 94) dX11_takeSeats_71 (by decide) (fun c_71 => absurd (rfl) c_71) (fun c_71 => ?_)
          refine pm_nload dX11_takeSeats_74 rfl ?_
          refine pm_ifnullN (tgt := 94) dX11_takeSeats_76 (by decide) ?_
          refine pm_iconst (v := 0) dX11_takeSeats_94 (by decide) ?_
          refine pm_zret dX11_takeSeats_95 rfl rfl rfl rfl ?_
          exact h0 (fun z => th_okf hn0 (by omega) z.1)
      · refine pm_nstore (lv2 := [(8, _), (7, _), (6, _), (5, _), (0, _), (1, _), (2, _), (3, _), (4, _)]) dX11_takeSeats_59 (Nat.le_of_ble_eq_true rfl) rfl ?_
        refine pm_aload_n dX11_takeSeats_61 rfl rfl ?_
        refine pm_iload dX11_takeSeats_62 rfl ?_
        refine pm_callV (M2 := m_X11_nutOf) (As := [_]) ok_X11_nutOf (ci := 11) rfl kw_545 kw_547 kw_5 dX11_takeSeats_64 rfl rfl rfl (Nat.le_of_ble_eq_true rfl) ⟨⟨Nat.le_of_ble_eq_true rfl, Nat.le_of_ble_eq_true rfl⟩, Nat.le_of_ble_eq_true rfl, Nat.le_of_ble_eq_true rfl⟩ ?_
        refine c_X11_nutOf h8 (fun q hq e_q => ?_) (fun hn3 => ?_)
        · subst e_q
          obtain ⟨⟨kq, hkq, eq⟩, -⟩ := th_nk hI hq
          have hwq : th_g2 ad S A Y q = some (.inr (pm_kc (th_n (A 6 q)), th_nf ad A Y q)) := th_nt_get hq
          rw [eq, th_n_nI (by omega)] at hwq
          have hdq : th_hdn A q = pm_hd kq (A 8 q) := by rw [th_hdn, eq, th_n_nI (by omega)]
          refine pm_astore (lv2 := [(9, _), (8, _), (7, _), (6, _), (5, _), (0, _), (1, _), (2, _), (3, _), (4, _)]) dX11_takeSeats_67 (Nat.le_of_ble_eq_true rfl) rfl ?_
          refine pm_iload dX11_takeSeats_69 rfl ?_
          refine pm_if_ne (tgt := 94) dX11_takeSeats_71 (by decide) (fun c_71 => absurd (rfl) c_71) (fun c_71 => ?_)
          refine pm_nload dX11_takeSeats_74 rfl ?_
          refine pm_ifnullN (tgt := 94) dX11_takeSeats_76 (by decide) ?_
          refine pm_iconst (v := 0) dX11_takeSeats_94 (by decide) ?_
          refine pm_zret dX11_takeSeats_95 rfl rfl rfl rfl ?_
          exact h0 (fun z => th_okf hn0 (by omega) z.1)
        · refine pm_nstore (lv2 := [(9, _), (8, _), (7, _), (6, _), (5, _), (0, _), (1, _), (2, _), (3, _), (4, _)]) dX11_takeSeats_67 (Nat.le_of_ble_eq_true rfl) rfl ?_
          refine pm_iload dX11_takeSeats_69 rfl ?_
          refine pm_if_ne (tgt := 94) dX11_takeSeats_71 (by decide) (fun c_71 => absurd (rfl) c_71) (fun c_71 => ?_)
          refine pm_nload dX11_takeSeats_74 rfl ?_
          refine pm_ifnullN (tgt := 94) dX11_takeSeats_76 (by decide) ?_
          refine pm_iconst (v := 0) dX11_takeSeats_94 (by decide) ?_
          refine pm_zret dX11_takeSeats_95 rfl rfl rfl rfl ?_
          exact h0 (fun z => th_okf hn0 (by omega) z.1)
    · refine pm_nstore (lv2 := [(7, _), (6, _), (5, _), (0, _), (1, _), (2, _), (3, _), (4, _)]) dX11_takeSeats_52 (Nat.le_of_ble_eq_true rfl) rfl ?_
      refine pm_aload_n dX11_takeSeats_54 rfl rfl ?_
      refine pm_iload_n dX11_takeSeats_55 rfl rfl ?_
      refine pm_callV (M2 := m_X11_nutOf) (As := [_]) ok_X11_nutOf (ci := 11) rfl kw_545 kw_547 kw_5 dX11_takeSeats_56 rfl rfl rfl (Nat.le_of_ble_eq_true rfl) ⟨⟨Nat.le_of_ble_eq_true rfl, Nat.le_of_ble_eq_true rfl⟩, Nat.le_of_ble_eq_true rfl, Nat.le_of_ble_eq_true rfl⟩ ?_
      refine c_X11_nutOf h8 (fun k hk e_k => ?_) (fun hn2 => ?_)
      · subst e_k
        obtain ⟨⟨kk, hkk, ek⟩, -⟩ := th_nk hI hk
        have hwk : th_g2 ad S A Y k = some (.inr (pm_kc (th_n (A 6 k)), th_nf ad A Y k)) := th_nt_get hk
        rw [ek, th_n_nI (by omega)] at hwk
        have hdk : th_hdn A k = pm_hd kk (A 8 k) := by rw [th_hdn, ek, th_n_nI (by omega)]
        refine pm_astore (lv2 := [(8, _), (7, _), (6, _), (5, _), (0, _), (1, _), (2, _), (3, _), (4, _)]) dX11_takeSeats_59 (Nat.le_of_ble_eq_true rfl) rfl ?_
        refine pm_aload_n dX11_takeSeats_61 rfl rfl ?_
        refine pm_iload dX11_takeSeats_62 rfl ?_
        refine pm_callV (M2 := m_X11_nutOf) (As := [_]) ok_X11_nutOf (ci := 11) rfl kw_545 kw_547 kw_5 dX11_takeSeats_64 rfl rfl rfl (Nat.le_of_ble_eq_true rfl) ⟨⟨Nat.le_of_ble_eq_true rfl, Nat.le_of_ble_eq_true rfl⟩, Nat.le_of_ble_eq_true rfl, Nat.le_of_ble_eq_true rfl⟩ ?_
        refine c_X11_nutOf h8 (fun q hq e_q => ?_) (fun hn3 => ?_)
        · subst e_q
          obtain ⟨⟨kq, hkq, eq⟩, -⟩ := th_nk hI hq
          have hwq : th_g2 ad S A Y q = some (.inr (pm_kc (th_n (A 6 q)), th_nf ad A Y q)) := th_nt_get hq
          rw [eq, th_n_nI (by omega)] at hwq
          have hdq : th_hdn A q = pm_hd kq (A 8 q) := by rw [th_hdn, eq, th_n_nI (by omega)]
          refine pm_astore (lv2 := [(9, _), (8, _), (7, _), (6, _), (5, _), (0, _), (1, _), (2, _), (3, _), (4, _)]) dX11_takeSeats_67 (Nat.le_of_ble_eq_true rfl) rfl ?_
          refine pm_iload dX11_takeSeats_69 rfl ?_
          refine pm_if_ne (tgt := 94) dX11_takeSeats_71 (by decide) (fun c_71 => absurd (rfl) c_71) (fun c_71 => ?_)
          refine pm_nload dX11_takeSeats_74 rfl ?_
          refine pm_ifnullN (tgt := 94) dX11_takeSeats_76 (by decide) ?_
          refine pm_iconst (v := 0) dX11_takeSeats_94 (by decide) ?_
          refine pm_zret dX11_takeSeats_95 rfl rfl rfl rfl ?_
          exact h0 (fun z => th_okf hn0 (by omega) z.1)
        · refine pm_nstore (lv2 := [(9, _), (8, _), (7, _), (6, _), (5, _), (0, _), (1, _), (2, _), (3, _), (4, _)]) dX11_takeSeats_67 (Nat.le_of_ble_eq_true rfl) rfl ?_
          refine pm_iload dX11_takeSeats_69 rfl ?_
          refine pm_if_ne (tgt := 94) dX11_takeSeats_71 (by decide) (fun c_71 => absurd (rfl) c_71) (fun c_71 => ?_)
          refine pm_nload dX11_takeSeats_74 rfl ?_
          refine pm_ifnullN (tgt := 94) dX11_takeSeats_76 (by decide) ?_
          refine pm_iconst (v := 0) dX11_takeSeats_94 (by decide) ?_
          refine pm_zret dX11_takeSeats_95 rfl rfl rfl rfl ?_
          exact h0 (fun z => th_okf hn0 (by omega) z.1)
      · refine pm_nstore (lv2 := [(8, _), (7, _), (6, _), (5, _), (0, _), (1, _), (2, _), (3, _), (4, _)]) dX11_takeSeats_59 (Nat.le_of_ble_eq_true rfl) rfl ?_
        refine pm_aload_n dX11_takeSeats_61 rfl rfl ?_
        refine pm_iload dX11_takeSeats_62 rfl ?_
        refine pm_callV (M2 := m_X11_nutOf) (As := [_]) ok_X11_nutOf (ci := 11) rfl kw_545 kw_547 kw_5 dX11_takeSeats_64 rfl rfl rfl (Nat.le_of_ble_eq_true rfl) ⟨⟨Nat.le_of_ble_eq_true rfl, Nat.le_of_ble_eq_true rfl⟩, Nat.le_of_ble_eq_true rfl, Nat.le_of_ble_eq_true rfl⟩ ?_
        refine c_X11_nutOf h8 (fun q hq e_q => ?_) (fun hn3 => ?_)
        · subst e_q
          obtain ⟨⟨kq, hkq, eq⟩, -⟩ := th_nk hI hq
          have hwq : th_g2 ad S A Y q = some (.inr (pm_kc (th_n (A 6 q)), th_nf ad A Y q)) := th_nt_get hq
          rw [eq, th_n_nI (by omega)] at hwq
          have hdq : th_hdn A q = pm_hd kq (A 8 q) := by rw [th_hdn, eq, th_n_nI (by omega)]
          refine pm_astore (lv2 := [(9, _), (8, _), (7, _), (6, _), (5, _), (0, _), (1, _), (2, _), (3, _), (4, _)]) dX11_takeSeats_67 (Nat.le_of_ble_eq_true rfl) rfl ?_
          refine pm_iload dX11_takeSeats_69 rfl ?_
          refine pm_if_ne (tgt := 94) dX11_takeSeats_71 (by decide) (fun c_71 => absurd (rfl) c_71) (fun c_71 => ?_)
          refine pm_nload dX11_takeSeats_74 rfl ?_
          refine pm_ifnullN (tgt := 94) dX11_takeSeats_76 (by decide) ?_
          refine pm_iconst (v := 0) dX11_takeSeats_94 (by decide) ?_
          refine pm_zret dX11_takeSeats_95 rfl rfl rfl rfl ?_
          exact h0 (fun z => th_okf hn0 (by omega) z.1)
        · refine pm_nstore (lv2 := [(9, _), (8, _), (7, _), (6, _), (5, _), (0, _), (1, _), (2, _), (3, _), (4, _)]) dX11_takeSeats_67 (Nat.le_of_ble_eq_true rfl) rfl ?_
          refine pm_iload dX11_takeSeats_69 rfl ?_
          refine pm_if_ne (tgt := 94) dX11_takeSeats_71 (by decide) (fun c_71 => absurd (rfl) c_71) (fun c_71 => ?_)
          refine pm_nload dX11_takeSeats_74 rfl ?_
          refine pm_ifnullN (tgt := 94) dX11_takeSeats_76 (by decide) ?_
          refine pm_iconst (v := 0) dX11_takeSeats_94 (by decide) ?_
          refine pm_zret dX11_takeSeats_95 rfl rfl rfl rfl ?_
          exact h0 (fun z => th_okf hn0 (by omega) z.1)

set_option maxHeartbeats 600000 in
set_option maxRecDepth 100000 in
theorem f_X11_ts1 {l : Launch} {G : pm_G} {ad : Nat → Nat → Nat} {S : Nat → Nat} {A : Nat → Nat → Int32} {X : Nat → Int32} {Y : Nat → Nat → Int32} {F : Nat → Int64} {Hd Cs : Nat → Option Nat} {m : List pm_A} {Q : pm_T} {a b c d : Int32} (hI : th_I S A) (hd : ¬ th_f4 (S 11) a b c d) (h0 : ¬ th_f4 (S 11) a b c d → Q ad (some (.int 0)) (th_cw ad S A X Y F Hd Cs m)) : pm_W l G m_X11_takeSeats ad 38 [(0, .ref (ad 0 0)), (1, .int a), (2, .int b), (3, .int c), (4, .int d)] [.int 1] (th_cw ad S A X Y F Hd Cs m) 0 0 Q := by
  have h8 := hI.2.2.2.2.1.1
  refine pm_istore (lv2 := [(5, _), (0, _), (1, _), (2, _), (3, _), (4, _)]) dX11_takeSeats_38 (Nat.le_of_ble_eq_true rfl) rfl ?_
  refine pm_aload_n dX11_takeSeats_40 rfl rfl ?_
  refine pm_iload_n dX11_takeSeats_41 rfl rfl ?_
  refine pm_callV (M2 := m_X11_nutOf) (As := [_]) ok_X11_nutOf (ci := 11) rfl kw_545 kw_547 kw_5 dX11_takeSeats_42 rfl rfl rfl (Nat.le_of_ble_eq_true rfl) ⟨⟨Nat.le_of_ble_eq_true rfl, Nat.le_of_ble_eq_true rfl⟩, Nat.le_of_ble_eq_true rfl, Nat.le_of_ble_eq_true rfl⟩ ?_
  refine c_X11_nutOf h8 (fun i hi e_i => ?_) (fun hn0 => ?_)
  · subst e_i
    obtain ⟨⟨ki, hki, ei⟩, -⟩ := th_nk hI hi
    have hwi : th_g2 ad S A Y i = some (.inr (pm_kc (th_n (A 6 i)), th_nf ad A Y i)) := th_nt_get hi
    rw [ei, th_n_nI (by omega)] at hwi
    have hdi : th_hdn A i = pm_hd ki (A 8 i) := by rw [th_hdn, ei, th_n_nI (by omega)]
    refine pm_astore (lv2 := [(6, _), (5, _), (0, _), (1, _), (2, _), (3, _), (4, _)]) dX11_takeSeats_45 (Nat.le_of_ble_eq_true rfl) rfl ?_
    refine pm_aload_n dX11_takeSeats_47 rfl rfl ?_
    refine pm_iload_n dX11_takeSeats_48 rfl rfl ?_
    refine pm_callV (M2 := m_X11_nutOf) (As := [_]) ok_X11_nutOf (ci := 11) rfl kw_545 kw_547 kw_5 dX11_takeSeats_49 rfl rfl rfl (Nat.le_of_ble_eq_true rfl) ⟨⟨Nat.le_of_ble_eq_true rfl, Nat.le_of_ble_eq_true rfl⟩, Nat.le_of_ble_eq_true rfl, Nat.le_of_ble_eq_true rfl⟩ ?_
    refine c_X11_nutOf h8 (fun j hj e_j => ?_) (fun hn1 => ?_)
    · subst e_j
      obtain ⟨⟨kj, hkj, ej⟩, -⟩ := th_nk hI hj
      have hwj : th_g2 ad S A Y j = some (.inr (pm_kc (th_n (A 6 j)), th_nf ad A Y j)) := th_nt_get hj
      rw [ej, th_n_nI (by omega)] at hwj
      have hdj : th_hdn A j = pm_hd kj (A 8 j) := by rw [th_hdn, ej, th_n_nI (by omega)]
      refine pm_astore (lv2 := [(7, _), (6, _), (5, _), (0, _), (1, _), (2, _), (3, _), (4, _)]) dX11_takeSeats_52 (Nat.le_of_ble_eq_true rfl) rfl ?_
      refine pm_aload_n dX11_takeSeats_54 rfl rfl ?_
      refine pm_iload_n dX11_takeSeats_55 rfl rfl ?_
      refine pm_callV (M2 := m_X11_nutOf) (As := [_]) ok_X11_nutOf (ci := 11) rfl kw_545 kw_547 kw_5 dX11_takeSeats_56 rfl rfl rfl (Nat.le_of_ble_eq_true rfl) ⟨⟨Nat.le_of_ble_eq_true rfl, Nat.le_of_ble_eq_true rfl⟩, Nat.le_of_ble_eq_true rfl, Nat.le_of_ble_eq_true rfl⟩ ?_
      refine c_X11_nutOf h8 (fun k hk e_k => ?_) (fun hn2 => ?_)
      · subst e_k
        obtain ⟨⟨kk, hkk, ek⟩, -⟩ := th_nk hI hk
        have hwk : th_g2 ad S A Y k = some (.inr (pm_kc (th_n (A 6 k)), th_nf ad A Y k)) := th_nt_get hk
        rw [ek, th_n_nI (by omega)] at hwk
        have hdk : th_hdn A k = pm_hd kk (A 8 k) := by rw [th_hdn, ek, th_n_nI (by omega)]
        refine pm_astore (lv2 := [(8, _), (7, _), (6, _), (5, _), (0, _), (1, _), (2, _), (3, _), (4, _)]) dX11_takeSeats_59 (Nat.le_of_ble_eq_true rfl) rfl ?_
        refine pm_aload_n dX11_takeSeats_61 rfl rfl ?_
        refine pm_iload dX11_takeSeats_62 rfl ?_
        refine pm_callV (M2 := m_X11_nutOf) (As := [_]) ok_X11_nutOf (ci := 11) rfl kw_545 kw_547 kw_5 dX11_takeSeats_64 rfl rfl rfl (Nat.le_of_ble_eq_true rfl) ⟨⟨Nat.le_of_ble_eq_true rfl, Nat.le_of_ble_eq_true rfl⟩, Nat.le_of_ble_eq_true rfl, Nat.le_of_ble_eq_true rfl⟩ ?_
        refine c_X11_nutOf h8 (fun q hq e_q => ?_) (fun hn3 => ?_)
        · subst e_q
          obtain ⟨⟨kq, hkq, eq⟩, -⟩ := th_nk hI hq
          have hwq : th_g2 ad S A Y q = some (.inr (pm_kc (th_n (A 6 q)), th_nf ad A Y q)) := th_nt_get hq
          rw [eq, th_n_nI (by omega)] at hwq
          have hdq : th_hdn A q = pm_hd kq (A 8 q) := by rw [th_hdn, eq, th_n_nI (by omega)]
          refine pm_astore (lv2 := [(9, _), (8, _), (7, _), (6, _), (5, _), (0, _), (1, _), (2, _), (3, _), (4, _)]) dX11_takeSeats_67 (Nat.le_of_ble_eq_true rfl) rfl ?_
          refine pm_iload dX11_takeSeats_69 rfl ?_
          refine pm_if_ne (tgt := 94) dX11_takeSeats_71 (by decide) (fun c_71 => ?_) (fun c_71 => absurd c_71 (by decide))
          refine pm_iconst (v := 0) dX11_takeSeats_94 (by decide) ?_
          refine pm_zret dX11_takeSeats_95 rfl rfl rfl rfl ?_
          exact h0 hd
        · refine pm_nstore (lv2 := [(9, _), (8, _), (7, _), (6, _), (5, _), (0, _), (1, _), (2, _), (3, _), (4, _)]) dX11_takeSeats_67 (Nat.le_of_ble_eq_true rfl) rfl ?_
          refine pm_iload dX11_takeSeats_69 rfl ?_
          refine pm_if_ne (tgt := 94) dX11_takeSeats_71 (by decide) (fun c_71 => ?_) (fun c_71 => absurd c_71 (by decide))
          refine pm_iconst (v := 0) dX11_takeSeats_94 (by decide) ?_
          refine pm_zret dX11_takeSeats_95 rfl rfl rfl rfl ?_
          exact h0 hd
      · refine pm_nstore (lv2 := [(8, _), (7, _), (6, _), (5, _), (0, _), (1, _), (2, _), (3, _), (4, _)]) dX11_takeSeats_59 (Nat.le_of_ble_eq_true rfl) rfl ?_
        refine pm_aload_n dX11_takeSeats_61 rfl rfl ?_
        refine pm_iload dX11_takeSeats_62 rfl ?_
        refine pm_callV (M2 := m_X11_nutOf) (As := [_]) ok_X11_nutOf (ci := 11) rfl kw_545 kw_547 kw_5 dX11_takeSeats_64 rfl rfl rfl (Nat.le_of_ble_eq_true rfl) ⟨⟨Nat.le_of_ble_eq_true rfl, Nat.le_of_ble_eq_true rfl⟩, Nat.le_of_ble_eq_true rfl, Nat.le_of_ble_eq_true rfl⟩ ?_
        refine c_X11_nutOf h8 (fun q hq e_q => ?_) (fun hn3 => ?_)
        · subst e_q
          obtain ⟨⟨kq, hkq, eq⟩, -⟩ := th_nk hI hq
          have hwq : th_g2 ad S A Y q = some (.inr (pm_kc (th_n (A 6 q)), th_nf ad A Y q)) := th_nt_get hq
          rw [eq, th_n_nI (by omega)] at hwq
          have hdq : th_hdn A q = pm_hd kq (A 8 q) := by rw [th_hdn, eq, th_n_nI (by omega)]
          refine pm_astore (lv2 := [(9, _), (8, _), (7, _), (6, _), (5, _), (0, _), (1, _), (2, _), (3, _), (4, _)]) dX11_takeSeats_67 (Nat.le_of_ble_eq_true rfl) rfl ?_
          refine pm_iload dX11_takeSeats_69 rfl ?_
          refine pm_if_ne (tgt := 94) dX11_takeSeats_71 (by decide) (fun c_71 => ?_) (fun c_71 => absurd c_71 (by decide))
          refine pm_iconst (v := 0) dX11_takeSeats_94 (by decide) ?_
          refine pm_zret dX11_takeSeats_95 rfl rfl rfl rfl ?_
          exact h0 hd
        · refine pm_nstore (lv2 := [(9, _), (8, _), (7, _), (6, _), (5, _), (0, _), (1, _), (2, _), (3, _), (4, _)]) dX11_takeSeats_67 (Nat.le_of_ble_eq_true rfl) rfl ?_
          refine pm_iload dX11_takeSeats_69 rfl ?_
          refine pm_if_ne (tgt := 94) dX11_takeSeats_71 (by decide) (fun c_71 => ?_) (fun c_71 => absurd c_71 (by decide))
          refine pm_iconst (v := 0) dX11_takeSeats_94 (by decide) ?_
          refine pm_zret dX11_takeSeats_95 rfl rfl rfl rfl ?_
          exact h0 hd
    · refine pm_nstore (lv2 := [(7, _), (6, _), (5, _), (0, _), (1, _), (2, _), (3, _), (4, _)]) dX11_takeSeats_52 (Nat.le_of_ble_eq_true rfl) rfl ?_
      refine pm_aload_n dX11_takeSeats_54 rfl rfl ?_
      refine pm_iload_n dX11_takeSeats_55 rfl rfl ?_
      refine pm_callV (M2 := m_X11_nutOf) (As := [_]) ok_X11_nutOf (ci := 11) rfl kw_545 kw_547 kw_5 dX11_takeSeats_56 rfl rfl rfl (Nat.le_of_ble_eq_true rfl) ⟨⟨Nat.le_of_ble_eq_true rfl, Nat.le_of_ble_eq_true rfl⟩, Nat.le_of_ble_eq_true rfl, Nat.le_of_ble_eq_true rfl⟩ ?_
      refine c_X11_nutOf h8 (fun k hk e_k => ?_) (fun hn2 => ?_)
      · subst e_k
        obtain ⟨⟨kk, hkk, ek⟩, -⟩ := th_nk hI hk
        have hwk : th_g2 ad S A Y k = some (.inr (pm_kc (th_n (A 6 k)), th_nf ad A Y k)) := th_nt_get hk
        rw [ek, th_n_nI (by omega)] at hwk
        have hdk : th_hdn A k = pm_hd kk (A 8 k) := by rw [th_hdn, ek, th_n_nI (by omega)]
        refine pm_astore (lv2 := [(8, _), (7, _), (6, _), (5, _), (0, _), (1, _), (2, _), (3, _), (4, _)]) dX11_takeSeats_59 (Nat.le_of_ble_eq_true rfl) rfl ?_
        refine pm_aload_n dX11_takeSeats_61 rfl rfl ?_
        refine pm_iload dX11_takeSeats_62 rfl ?_
        refine pm_callV (M2 := m_X11_nutOf) (As := [_]) ok_X11_nutOf (ci := 11) rfl kw_545 kw_547 kw_5 dX11_takeSeats_64 rfl rfl rfl (Nat.le_of_ble_eq_true rfl) ⟨⟨Nat.le_of_ble_eq_true rfl, Nat.le_of_ble_eq_true rfl⟩, Nat.le_of_ble_eq_true rfl, Nat.le_of_ble_eq_true rfl⟩ ?_
        refine c_X11_nutOf h8 (fun q hq e_q => ?_) (fun hn3 => ?_)
        · subst e_q
          obtain ⟨⟨kq, hkq, eq⟩, -⟩ := th_nk hI hq
          have hwq : th_g2 ad S A Y q = some (.inr (pm_kc (th_n (A 6 q)), th_nf ad A Y q)) := th_nt_get hq
          rw [eq, th_n_nI (by omega)] at hwq
          have hdq : th_hdn A q = pm_hd kq (A 8 q) := by rw [th_hdn, eq, th_n_nI (by omega)]
          refine pm_astore (lv2 := [(9, _), (8, _), (7, _), (6, _), (5, _), (0, _), (1, _), (2, _), (3, _), (4, _)]) dX11_takeSeats_67 (Nat.le_of_ble_eq_true rfl) rfl ?_
          refine pm_iload dX11_takeSeats_69 rfl ?_
          refine pm_if_ne (tgt := 94) dX11_takeSeats_71 (by decide) (fun c_71 => ?_) (fun c_71 => absurd c_71 (by decide))
          refine pm_iconst (v := 0) dX11_takeSeats_94 (by decide) ?_
          refine pm_zret dX11_takeSeats_95 rfl rfl rfl rfl ?_
          exact h0 hd
        · refine pm_nstore (lv2 := [(9, _), (8, _), (7, _), (6, _), (5, _), (0, _), (1, _), (2, _), (3, _), (4, _)]) dX11_takeSeats_67 (Nat.le_of_ble_eq_true rfl) rfl ?_
          refine pm_iload dX11_takeSeats_69 rfl ?_
          refine pm_if_ne (tgt := 94) dX11_takeSeats_71 (by decide) (fun c_71 => ?_) (fun c_71 => absurd c_71 (by decide))
          refine pm_iconst (v := 0) dX11_takeSeats_94 (by decide) ?_
          refine pm_zret dX11_takeSeats_95 rfl rfl rfl rfl ?_
          exact h0 hd
      · refine pm_nstore (lv2 := [(8, _), (7, _), (6, _), (5, _), (0, _), (1, _), (2, _), (3, _), (4, _)]) dX11_takeSeats_59 (Nat.le_of_ble_eq_true rfl) rfl ?_
        refine pm_aload_n dX11_takeSeats_61 rfl rfl ?_
        refine pm_iload dX11_takeSeats_62 rfl ?_
        refine pm_callV (M2 := m_X11_nutOf) (As := [_]) ok_X11_nutOf (ci := 11) rfl kw_545 kw_547 kw_5 dX11_takeSeats_64 rfl rfl rfl (Nat.le_of_ble_eq_true rfl) ⟨⟨Nat.le_of_ble_eq_true rfl, Nat.le_of_ble_eq_true rfl⟩, Nat.le_of_ble_eq_true rfl, Nat.le_of_ble_eq_true rfl⟩ ?_
        refine c_X11_nutOf h8 (fun q hq e_q => ?_) (fun hn3 => ?_)
        · subst e_q
          obtain ⟨⟨kq, hkq, eq⟩, -⟩ := th_nk hI hq
          have hwq : th_g2 ad S A Y q = some (.inr (pm_kc (th_n (A 6 q)), th_nf ad A Y q)) := th_nt_get hq
          rw [eq, th_n_nI (by omega)] at hwq
          have hdq : th_hdn A q = pm_hd kq (A 8 q) := by rw [th_hdn, eq, th_n_nI (by omega)]
          refine pm_astore (lv2 := [(9, _), (8, _), (7, _), (6, _), (5, _), (0, _), (1, _), (2, _), (3, _), (4, _)]) dX11_takeSeats_67 (Nat.le_of_ble_eq_true rfl) rfl ?_
          refine pm_iload dX11_takeSeats_69 rfl ?_
          refine pm_if_ne (tgt := 94) dX11_takeSeats_71 (by decide) (fun c_71 => ?_) (fun c_71 => absurd c_71 (by decide))
          refine pm_iconst (v := 0) dX11_takeSeats_94 (by decide) ?_
          refine pm_zret dX11_takeSeats_95 rfl rfl rfl rfl ?_
          exact h0 hd
        · refine pm_nstore (lv2 := [(9, _), (8, _), (7, _), (6, _), (5, _), (0, _), (1, _), (2, _), (3, _), (4, _)]) dX11_takeSeats_67 (Nat.le_of_ble_eq_true rfl) rfl ?_
          refine pm_iload dX11_takeSeats_69 rfl ?_
          refine pm_if_ne (tgt := 94) dX11_takeSeats_71 (by decide) (fun c_71 => ?_) (fun c_71 => absurd c_71 (by decide))
          refine pm_iconst (v := 0) dX11_takeSeats_94 (by decide) ?_
          refine pm_zret dX11_takeSeats_95 rfl rfl rfl rfl ?_
          exact h0 hd
  · refine pm_nstore (lv2 := [(6, _), (5, _), (0, _), (1, _), (2, _), (3, _), (4, _)]) dX11_takeSeats_45 (Nat.le_of_ble_eq_true rfl) rfl ?_
    refine pm_aload_n dX11_takeSeats_47 rfl rfl ?_
    refine pm_iload_n dX11_takeSeats_48 rfl rfl ?_
    refine pm_callV (M2 := m_X11_nutOf) (As := [_]) ok_X11_nutOf (ci := 11) rfl kw_545 kw_547 kw_5 dX11_takeSeats_49 rfl rfl rfl (Nat.le_of_ble_eq_true rfl) ⟨⟨Nat.le_of_ble_eq_true rfl, Nat.le_of_ble_eq_true rfl⟩, Nat.le_of_ble_eq_true rfl, Nat.le_of_ble_eq_true rfl⟩ ?_
    refine c_X11_nutOf h8 (fun j hj e_j => ?_) (fun hn1 => ?_)
    · subst e_j
      obtain ⟨⟨kj, hkj, ej⟩, -⟩ := th_nk hI hj
      have hwj : th_g2 ad S A Y j = some (.inr (pm_kc (th_n (A 6 j)), th_nf ad A Y j)) := th_nt_get hj
      rw [ej, th_n_nI (by omega)] at hwj
      have hdj : th_hdn A j = pm_hd kj (A 8 j) := by rw [th_hdn, ej, th_n_nI (by omega)]
      refine pm_astore (lv2 := [(7, _), (6, _), (5, _), (0, _), (1, _), (2, _), (3, _), (4, _)]) dX11_takeSeats_52 (Nat.le_of_ble_eq_true rfl) rfl ?_
      refine pm_aload_n dX11_takeSeats_54 rfl rfl ?_
      refine pm_iload_n dX11_takeSeats_55 rfl rfl ?_
      refine pm_callV (M2 := m_X11_nutOf) (As := [_]) ok_X11_nutOf (ci := 11) rfl kw_545 kw_547 kw_5 dX11_takeSeats_56 rfl rfl rfl (Nat.le_of_ble_eq_true rfl) ⟨⟨Nat.le_of_ble_eq_true rfl, Nat.le_of_ble_eq_true rfl⟩, Nat.le_of_ble_eq_true rfl, Nat.le_of_ble_eq_true rfl⟩ ?_
      refine c_X11_nutOf h8 (fun k hk e_k => ?_) (fun hn2 => ?_)
      · subst e_k
        obtain ⟨⟨kk, hkk, ek⟩, -⟩ := th_nk hI hk
        have hwk : th_g2 ad S A Y k = some (.inr (pm_kc (th_n (A 6 k)), th_nf ad A Y k)) := th_nt_get hk
        rw [ek, th_n_nI (by omega)] at hwk
        have hdk : th_hdn A k = pm_hd kk (A 8 k) := by rw [th_hdn, ek, th_n_nI (by omega)]
        refine pm_astore (lv2 := [(8, _), (7, _), (6, _), (5, _), (0, _), (1, _), (2, _), (3, _), (4, _)]) dX11_takeSeats_59 (Nat.le_of_ble_eq_true rfl) rfl ?_
        refine pm_aload_n dX11_takeSeats_61 rfl rfl ?_
        refine pm_iload dX11_takeSeats_62 rfl ?_
        refine pm_callV (M2 := m_X11_nutOf) (As := [_]) ok_X11_nutOf (ci := 11) rfl kw_545 kw_547 kw_5 dX11_takeSeats_64 rfl rfl rfl (Nat.le_of_ble_eq_true rfl) ⟨⟨Nat.le_of_ble_eq_true rfl, Nat.le_of_ble_eq_true rfl⟩, Nat.le_of_ble_eq_true rfl, Nat.le_of_ble_eq_true rfl⟩ ?_
        refine c_X11_nutOf h8 (fun q hq e_q => ?_) (fun hn3 => ?_)
        · subst e_q
          obtain ⟨⟨kq, hkq, eq⟩, -⟩ := th_nk hI hq
          have hwq : th_g2 ad S A Y q = some (.inr (pm_kc (th_n (A 6 q)), th_nf ad A Y q)) := th_nt_get hq
          rw [eq, th_n_nI (by omega)] at hwq
          have hdq : th_hdn A q = pm_hd kq (A 8 q) := by rw [th_hdn, eq, th_n_nI (by omega)]
          refine pm_astore (lv2 := [(9, _), (8, _), (7, _), (6, _), (5, _), (0, _), (1, _), (2, _), (3, _), (4, _)]) dX11_takeSeats_67 (Nat.le_of_ble_eq_true rfl) rfl ?_
          refine pm_iload dX11_takeSeats_69 rfl ?_
          refine pm_if_ne (tgt := 94) dX11_takeSeats_71 (by decide) (fun c_71 => ?_) (fun c_71 => absurd c_71 (by decide))
          refine pm_iconst (v := 0) dX11_takeSeats_94 (by decide) ?_
          refine pm_zret dX11_takeSeats_95 rfl rfl rfl rfl ?_
          exact h0 hd
        · refine pm_nstore (lv2 := [(9, _), (8, _), (7, _), (6, _), (5, _), (0, _), (1, _), (2, _), (3, _), (4, _)]) dX11_takeSeats_67 (Nat.le_of_ble_eq_true rfl) rfl ?_
          refine pm_iload dX11_takeSeats_69 rfl ?_
          refine pm_if_ne (tgt := 94) dX11_takeSeats_71 (by decide) (fun c_71 => ?_) (fun c_71 => absurd c_71 (by decide))
          refine pm_iconst (v := 0) dX11_takeSeats_94 (by decide) ?_
          refine pm_zret dX11_takeSeats_95 rfl rfl rfl rfl ?_
          exact h0 hd
      · refine pm_nstore (lv2 := [(8, _), (7, _), (6, _), (5, _), (0, _), (1, _), (2, _), (3, _), (4, _)]) dX11_takeSeats_59 (Nat.le_of_ble_eq_true rfl) rfl ?_
        refine pm_aload_n dX11_takeSeats_61 rfl rfl ?_
        refine pm_iload dX11_takeSeats_62 rfl ?_
        refine pm_callV (M2 := m_X11_nutOf) (As := [_]) ok_X11_nutOf (ci := 11) rfl kw_545 kw_547 kw_5 dX11_takeSeats_64 rfl rfl rfl (Nat.le_of_ble_eq_true rfl) ⟨⟨Nat.le_of_ble_eq_true rfl, Nat.le_of_ble_eq_true rfl⟩, Nat.le_of_ble_eq_true rfl, Nat.le_of_ble_eq_true rfl⟩ ?_
        refine c_X11_nutOf h8 (fun q hq e_q => ?_) (fun hn3 => ?_)
        · subst e_q
          obtain ⟨⟨kq, hkq, eq⟩, -⟩ := th_nk hI hq
          have hwq : th_g2 ad S A Y q = some (.inr (pm_kc (th_n (A 6 q)), th_nf ad A Y q)) := th_nt_get hq
          rw [eq, th_n_nI (by omega)] at hwq
          have hdq : th_hdn A q = pm_hd kq (A 8 q) := by rw [th_hdn, eq, th_n_nI (by omega)]
          refine pm_astore (lv2 := [(9, _), (8, _), (7, _), (6, _), (5, _), (0, _), (1, _), (2, _), (3, _), (4, _)]) dX11_takeSeats_67 (Nat.le_of_ble_eq_true rfl) rfl ?_
          refine pm_iload dX11_takeSeats_69 rfl ?_
          refine pm_if_ne (tgt := 94) dX11_takeSeats_71 (by decide) (fun c_71 => ?_) (fun c_71 => absurd c_71 (by decide))
          refine pm_iconst (v := 0) dX11_takeSeats_94 (by decide) ?_
          refine pm_zret dX11_takeSeats_95 rfl rfl rfl rfl ?_
          exact h0 hd
        · refine pm_nstore (lv2 := [(9, _), (8, _), (7, _), (6, _), (5, _), (0, _), (1, _), (2, _), (3, _), (4, _)]) dX11_takeSeats_67 (Nat.le_of_ble_eq_true rfl) rfl ?_
          refine pm_iload dX11_takeSeats_69 rfl ?_
          refine pm_if_ne (tgt := 94) dX11_takeSeats_71 (by decide) (fun c_71 => ?_) (fun c_71 => absurd c_71 (by decide))
          refine pm_iconst (v := 0) dX11_takeSeats_94 (by decide) ?_
          refine pm_zret dX11_takeSeats_95 rfl rfl rfl rfl ?_
          exact h0 hd
    · refine pm_nstore (lv2 := [(7, _), (6, _), (5, _), (0, _), (1, _), (2, _), (3, _), (4, _)]) dX11_takeSeats_52 (Nat.le_of_ble_eq_true rfl) rfl ?_
      refine pm_aload_n dX11_takeSeats_54 rfl rfl ?_
      refine pm_iload_n dX11_takeSeats_55 rfl rfl ?_
      refine pm_callV (M2 := m_X11_nutOf) (As := [_]) ok_X11_nutOf (ci := 11) rfl kw_545 kw_547 kw_5 dX11_takeSeats_56 rfl rfl rfl (Nat.le_of_ble_eq_true rfl) ⟨⟨Nat.le_of_ble_eq_true rfl, Nat.le_of_ble_eq_true rfl⟩, Nat.le_of_ble_eq_true rfl, Nat.le_of_ble_eq_true rfl⟩ ?_
      refine c_X11_nutOf h8 (fun k hk e_k => ?_) (fun hn2 => ?_)
      · subst e_k
        obtain ⟨⟨kk, hkk, ek⟩, -⟩ := th_nk hI hk
        have hwk : th_g2 ad S A Y k = some (.inr (pm_kc (th_n (A 6 k)), th_nf ad A Y k)) := th_nt_get hk
        rw [ek, th_n_nI (by omega)] at hwk
        have hdk : th_hdn A k = pm_hd kk (A 8 k) := by rw [th_hdn, ek, th_n_nI (by omega)]
        refine pm_astore (lv2 := [(8, _), (7, _), (6, _), (5, _), (0, _), (1, _), (2, _), (3, _), (4, _)]) dX11_takeSeats_59 (Nat.le_of_ble_eq_true rfl) rfl ?_
        refine pm_aload_n dX11_takeSeats_61 rfl rfl ?_
        refine pm_iload dX11_takeSeats_62 rfl ?_
        refine pm_callV (M2 := m_X11_nutOf) (As := [_]) ok_X11_nutOf (ci := 11) rfl kw_545 kw_547 kw_5 dX11_takeSeats_64 rfl rfl rfl (Nat.le_of_ble_eq_true rfl) ⟨⟨Nat.le_of_ble_eq_true rfl, Nat.le_of_ble_eq_true rfl⟩, Nat.le_of_ble_eq_true rfl, Nat.le_of_ble_eq_true rfl⟩ ?_
        refine c_X11_nutOf h8 (fun q hq e_q => ?_) (fun hn3 => ?_)
        · subst e_q
          obtain ⟨⟨kq, hkq, eq⟩, -⟩ := th_nk hI hq
          have hwq : th_g2 ad S A Y q = some (.inr (pm_kc (th_n (A 6 q)), th_nf ad A Y q)) := th_nt_get hq
          rw [eq, th_n_nI (by omega)] at hwq
          have hdq : th_hdn A q = pm_hd kq (A 8 q) := by rw [th_hdn, eq, th_n_nI (by omega)]
          refine pm_astore (lv2 := [(9, _), (8, _), (7, _), (6, _), (5, _), (0, _), (1, _), (2, _), (3, _), (4, _)]) dX11_takeSeats_67 (Nat.le_of_ble_eq_true rfl) rfl ?_
          refine pm_iload dX11_takeSeats_69 rfl ?_
          refine pm_if_ne (tgt := 94) dX11_takeSeats_71 (by decide) (fun c_71 => ?_) (fun c_71 => absurd c_71 (by decide))
          refine pm_iconst (v := 0) dX11_takeSeats_94 (by decide) ?_
          refine pm_zret dX11_takeSeats_95 rfl rfl rfl rfl ?_
          exact h0 hd
        · refine pm_nstore (lv2 := [(9, _), (8, _), (7, _), (6, _), (5, _), (0, _), (1, _), (2, _), (3, _), (4, _)]) dX11_takeSeats_67 (Nat.le_of_ble_eq_true rfl) rfl ?_
          refine pm_iload dX11_takeSeats_69 rfl ?_
          refine pm_if_ne (tgt := 94) dX11_takeSeats_71 (by decide) (fun c_71 => ?_) (fun c_71 => absurd c_71 (by decide))
          refine pm_iconst (v := 0) dX11_takeSeats_94 (by decide) ?_
          refine pm_zret dX11_takeSeats_95 rfl rfl rfl rfl ?_
          exact h0 hd
      · refine pm_nstore (lv2 := [(8, _), (7, _), (6, _), (5, _), (0, _), (1, _), (2, _), (3, _), (4, _)]) dX11_takeSeats_59 (Nat.le_of_ble_eq_true rfl) rfl ?_
        refine pm_aload_n dX11_takeSeats_61 rfl rfl ?_
        refine pm_iload dX11_takeSeats_62 rfl ?_
        refine pm_callV (M2 := m_X11_nutOf) (As := [_]) ok_X11_nutOf (ci := 11) rfl kw_545 kw_547 kw_5 dX11_takeSeats_64 rfl rfl rfl (Nat.le_of_ble_eq_true rfl) ⟨⟨Nat.le_of_ble_eq_true rfl, Nat.le_of_ble_eq_true rfl⟩, Nat.le_of_ble_eq_true rfl, Nat.le_of_ble_eq_true rfl⟩ ?_
        refine c_X11_nutOf h8 (fun q hq e_q => ?_) (fun hn3 => ?_)
        · subst e_q
          obtain ⟨⟨kq, hkq, eq⟩, -⟩ := th_nk hI hq
          have hwq : th_g2 ad S A Y q = some (.inr (pm_kc (th_n (A 6 q)), th_nf ad A Y q)) := th_nt_get hq
          rw [eq, th_n_nI (by omega)] at hwq
          have hdq : th_hdn A q = pm_hd kq (A 8 q) := by rw [th_hdn, eq, th_n_nI (by omega)]
          refine pm_astore (lv2 := [(9, _), (8, _), (7, _), (6, _), (5, _), (0, _), (1, _), (2, _), (3, _), (4, _)]) dX11_takeSeats_67 (Nat.le_of_ble_eq_true rfl) rfl ?_
          refine pm_iload dX11_takeSeats_69 rfl ?_
          refine pm_if_ne (tgt := 94) dX11_takeSeats_71 (by decide) (fun c_71 => ?_) (fun c_71 => absurd c_71 (by decide))
          refine pm_iconst (v := 0) dX11_takeSeats_94 (by decide) ?_
          refine pm_zret dX11_takeSeats_95 rfl rfl rfl rfl ?_
          exact h0 hd
        · refine pm_nstore (lv2 := [(9, _), (8, _), (7, _), (6, _), (5, _), (0, _), (1, _), (2, _), (3, _), (4, _)]) dX11_takeSeats_67 (Nat.le_of_ble_eq_true rfl) rfl ?_
          refine pm_iload dX11_takeSeats_69 rfl ?_
          refine pm_if_ne (tgt := 94) dX11_takeSeats_71 (by decide) (fun c_71 => ?_) (fun c_71 => absurd c_71 (by decide))
          refine pm_iconst (v := 0) dX11_takeSeats_94 (by decide) ?_
          refine pm_zret dX11_takeSeats_95 rfl rfl rfl rfl ?_
          exact h0 hd

set_option maxHeartbeats 600000 in
set_option maxRecDepth 100000 in
theorem c_X11_takeSeats {l : Launch} {G : pm_G} {ad : Nat → Nat → Nat} {S : Nat → Nat} {A : Nat → Nat → Int32} {X : Nat → Int32} {Y : Nat → Nat → Int32} {F : Nat → Int64} {Hd Cs : Nat → Option Nat} {m : List pm_A} {Q : pm_T} {a b c d : Int32} (hI : th_I S A) (h1 : ∀ i j k q, i < S 11 → j < S 11 → k < S 11 → q < S 11 → a = nI i → b = nI j → c = nI k → d = nI q → th_f4 (S 11) a b c d → ∀ y, y 0 = th_hdn A i → y 1 = th_hdn A j → y 2 = th_hdn A k → y 3 = th_hdn A q → Q ad (some (.int 1)) (th_cw ad S A X (va_up Y 0 y) F Hd Cs m)) (h0 : ¬ th_f4 (S 11) a b c d → Q ad (some (.int 0)) (th_cw ad S A X Y F Hd Cs m)) : pm_C l G m_X11_takeSeats [.ref (ad 0 0), .int a, .int b, .int c, .int d] ad (th_cw ad S A X Y F Hd Cs m) Q := by
  refine pm_met (by decide) (Nat.le_of_ble_eq_true rfl) ?_
  refine pm_iload_n dX11_takeSeats_0 rfl rfl ?_
  refine pm_iload_n dX11_takeSeats_1 rfl rfl ?_
  refine pm_icmp_eq (tgt := 33) dX11_takeSeats_2 (by decide) (fun c_2 => ?_) (fun c_2 => ?_)
  · refine pm_iconst (v := 1) dX11_takeSeats_33 (by decide) ?_
    refine pm_goto (tgt := 38) dX11_takeSeats_34 (by decide) ?_
    exact f_X11_ts1 hI (fun z => z.2.2.2.2.1 c_2) h0
  · refine pm_iload_n dX11_takeSeats_5 rfl rfl ?_
    refine pm_iload_n dX11_takeSeats_6 rfl rfl ?_
    refine pm_icmp_eq (tgt := 33) dX11_takeSeats_7 (by decide) (fun c_7 => ?_) (fun c_7 => ?_)
    · refine pm_iconst (v := 1) dX11_takeSeats_33 (by decide) ?_
      refine pm_goto (tgt := 38) dX11_takeSeats_34 (by decide) ?_
      exact f_X11_ts1 hI (fun z => z.2.2.2.2.2.1 c_7) h0
    · refine pm_iload_n dX11_takeSeats_10 rfl rfl ?_
      refine pm_iload dX11_takeSeats_11 rfl ?_
      refine pm_icmp_eq (tgt := 33) dX11_takeSeats_13 (by decide) (fun c_13 => ?_) (fun c_13 => ?_)
      · refine pm_iconst (v := 1) dX11_takeSeats_33 (by decide) ?_
        refine pm_goto (tgt := 38) dX11_takeSeats_34 (by decide) ?_
        exact f_X11_ts1 hI (fun z => z.2.2.2.2.2.2.1 c_13) h0
      · refine pm_iload_n dX11_takeSeats_16 rfl rfl ?_
        refine pm_iload_n dX11_takeSeats_17 rfl rfl ?_
        refine pm_icmp_eq (tgt := 33) dX11_takeSeats_18 (by decide) (fun c_18 => ?_) (fun c_18 => ?_)
        · refine pm_iconst (v := 1) dX11_takeSeats_33 (by decide) ?_
          refine pm_goto (tgt := 38) dX11_takeSeats_34 (by decide) ?_
          exact f_X11_ts1 hI (fun z => z.2.2.2.2.2.2.2.1 c_18) h0
        · refine pm_iload_n dX11_takeSeats_21 rfl rfl ?_
          refine pm_iload dX11_takeSeats_22 rfl ?_
          refine pm_icmp_eq (tgt := 33) dX11_takeSeats_24 (by decide) (fun c_24 => ?_) (fun c_24 => ?_)
          · refine pm_iconst (v := 1) dX11_takeSeats_33 (by decide) ?_
            refine pm_goto (tgt := 38) dX11_takeSeats_34 (by decide) ?_
            exact f_X11_ts1 hI (fun z => z.2.2.2.2.2.2.2.2.1 c_24) h0
          · refine pm_iload_n dX11_takeSeats_27 rfl rfl ?_
            refine pm_iload dX11_takeSeats_28 rfl ?_
            refine pm_icmp_ne (tgt := 37) dX11_takeSeats_30 (by decide) (fun c_30 => ?_) (fun c_30 => ?_)
            · refine pm_iconst (v := 0) dX11_takeSeats_37 (by decide) ?_
              exact f_X11_ts0 hI ⟨c_2, c_7, c_13, c_18, c_24, c_30⟩ h1 h0
            · refine pm_iconst (v := 1) dX11_takeSeats_33 (by decide) ?_
              refine pm_goto (tgt := 38) dX11_takeSeats_34 (by decide) ?_
              exact f_X11_ts1 hI (fun z => z.2.2.2.2.2.2.2.2.2 c_30) h0

set_option maxHeartbeats 600000 in
set_option maxRecDepth 100000 in
theorem c_X11_last {l : Launch} {G : pm_G} {ad : Nat → Nat → Nat} {S : Nat → Nat} {A : Nat → Nat → Int32} {X : Nat → Int32} {Y : Nat → Nat → Int32} {F : Nat → Int64} {Hd Cs : Nat → Option Nat} {m : List pm_A} {Q : pm_T} {a b c d : Int32} (hI : th_I S A) (hQ : ∀ y, Q ad (some (.int (th_lastA S A a b c d))) (th_cw ad S A X (va_up Y 0 y) F Hd Cs m)) : pm_C l G m_X11_last [.ref (ad 0 0), .int a, .int b, .int c, .int d] ad (th_cw ad S A X Y F Hd Cs m) Q := by
  have h8 := hI.2.2.2.2.1.1
  refine pm_met (by decide) (Nat.le_of_ble_eq_true rfl) ?_
  refine pm_aload_n dX11_last_0 rfl rfl ?_
  refine pm_iload_n dX11_last_1 rfl rfl ?_
  refine pm_iload_n dX11_last_2 rfl rfl ?_
  refine pm_iload_n dX11_last_3 rfl rfl ?_
  refine pm_iload dX11_last_4 rfl ?_
  refine pm_callV (M2 := m_X11_takeSeats) (As := [_, _, _, _]) ok_X11_takeSeats (ci := 11) rfl kw_850 kw_852 kw_13 dX11_last_6 rfl rfl rfl (Nat.le_of_ble_eq_true rfl) ⟨⟨Nat.le_of_ble_eq_true rfl, Nat.le_of_ble_eq_true rfl⟩, Nat.le_of_ble_eq_true rfl, Nat.le_of_ble_eq_true rfl⟩ ?_
  refine c_X11_takeSeats hI (fun i j k q hi hj hk hq ea eb ec ed hf y y0 y1 y2 y3 => ?_) (fun hf => ?_)
  · subst ea eb ec ed
    refine pm_if_ne (tgt := 15) dX11_last_9 (by decide) (fun c_9 => ?_) (fun c_9 => absurd c_9 (by decide))
    refine pm_aload_n dX11_last_15 rfl rfl ?_
    refine pm_iconst (v := 0) dX11_last_16 (by decide) ?_
    refine pm_iconst (v := 2) dX11_last_17 (by decide) ?_
    refine pm_callV (M2 := m_X11_tenthsFor) (As := [_, _]) ok_X11_tenthsFor (ci := 11) rfl kw_855 kw_857 kw_14 dX11_last_18 rfl rfl rfl (Nat.le_of_ble_eq_true rfl) ⟨⟨Nat.le_of_ble_eq_true rfl, Nat.le_of_ble_eq_true rfl⟩, Nat.le_of_ble_eq_true rfl, Nat.le_of_ble_eq_true rfl⟩ ?_
    refine c_X11_tenthsFor (Y := va_up Y 0 y) (i := 0) (j := 2) (by decide) (by decide) ?_
    rw [show va_up Y 0 y 0 0 = y 0 from rfl, show va_up Y 0 y 0 2 = y 2 from rfl, y0, y2]
    refine pm_aload_n dX11_last_21 rfl rfl ?_
    refine pm_iconst (v := 1) dX11_last_22 (by decide) ?_
    refine pm_iconst (v := 3) dX11_last_23 (by decide) ?_
    refine pm_callV (M2 := m_X11_tenthsFor) (As := [_, _]) ok_X11_tenthsFor (ci := 11) rfl kw_855 kw_857 kw_14 dX11_last_24 rfl rfl rfl (Nat.le_of_ble_eq_true rfl) ⟨⟨Nat.le_of_ble_eq_true rfl, Nat.le_of_ble_eq_true rfl⟩, Nat.le_of_ble_eq_true rfl, Nat.le_of_ble_eq_true rfl⟩ ?_
    refine c_X11_tenthsFor (Y := va_up Y 0 y) (i := 1) (j := 3) (by decide) (by decide) ?_
    rw [show va_up Y 0 y 0 1 = y 1 from rfl, show va_up Y 0 y 0 3 = y 3 from rfl, y1, y3]
    refine pm_imul dX11_last_27 ?_
    refine pm_istore (lv2 := [(5, _), (0, _), (1, _), (2, _), (3, _), (4, _)]) dX11_last_28 (Nat.le_of_ble_eq_true rfl) rfl ?_
    refine pm_aload_n dX11_last_30 rfl rfl ?_
    refine pm_iconst (v := 0) dX11_last_31 (by decide) ?_
    refine pm_iconst (v := 3) dX11_last_32 (by decide) ?_
    refine pm_callV (M2 := m_X11_tenthsFor) (As := [_, _]) ok_X11_tenthsFor (ci := 11) rfl kw_855 kw_857 kw_14 dX11_last_33 rfl rfl rfl (Nat.le_of_ble_eq_true rfl) ⟨⟨Nat.le_of_ble_eq_true rfl, Nat.le_of_ble_eq_true rfl⟩, Nat.le_of_ble_eq_true rfl, Nat.le_of_ble_eq_true rfl⟩ ?_
    refine c_X11_tenthsFor (Y := va_up Y 0 y) (i := 0) (j := 3) (by decide) (by decide) ?_
    rw [show va_up Y 0 y 0 0 = y 0 from rfl, show va_up Y 0 y 0 3 = y 3 from rfl, y0, y3]
    refine pm_aload_n dX11_last_36 rfl rfl ?_
    refine pm_iconst (v := 1) dX11_last_37 (by decide) ?_
    refine pm_iconst (v := 2) dX11_last_38 (by decide) ?_
    refine pm_callV (M2 := m_X11_tenthsFor) (As := [_, _]) ok_X11_tenthsFor (ci := 11) rfl kw_855 kw_857 kw_14 dX11_last_39 rfl rfl rfl (Nat.le_of_ble_eq_true rfl) ⟨⟨Nat.le_of_ble_eq_true rfl, Nat.le_of_ble_eq_true rfl⟩, Nat.le_of_ble_eq_true rfl, Nat.le_of_ble_eq_true rfl⟩ ?_
    refine c_X11_tenthsFor (Y := va_up Y 0 y) (i := 1) (j := 2) (by decide) (by decide) ?_
    rw [show va_up Y 0 y 0 1 = y 1 from rfl, show va_up Y 0 y 0 2 = y 2 from rfl, y1, y2]
    refine pm_imul dX11_last_42 ?_
    refine pm_istore (lv2 := [(6, _), (5, _), (0, _), (1, _), (2, _), (3, _), (4, _)]) dX11_last_43 (Nat.le_of_ble_eq_true rfl) rfl ?_
    refine pm_iload dX11_last_45 rfl ?_
    refine pm_iload dX11_last_47 rfl ?_
    refine pm_icmp_le (tgt := 56) dX11_last_49 (by decide) (fun c_49 => ?_) (fun c_49 => ?_)
    · refine pm_iconst (v := 1) dX11_last_56 (by decide) ?_
      refine pm_iret dX11_last_57 rfl rfl rfl ?_
      refine th_r ?_ (hQ y)
      rw [th_lastA, if_pos hf, th_n_nI (show i < 2 ^ 31 by omega), th_n_nI (show j < 2 ^ 31 by omega), th_n_nI (show k < 2 ^ 31 by omega), th_n_nI (show q < 2 ^ 31 by omega), th_lst, if_pos c_49]
    · refine pm_iconst (v := 2) dX11_last_52 (by decide) ?_
      refine pm_goto (tgt := 57) dX11_last_53 (by decide) ?_
      refine pm_iret dX11_last_57 rfl rfl rfl ?_
      refine th_r ?_ (hQ y)
      rw [th_lastA, if_pos hf, th_n_nI (show i < 2 ^ 31 by omega), th_n_nI (show j < 2 ^ 31 by omega), th_n_nI (show k < 2 ^ 31 by omega), th_n_nI (show q < 2 ^ 31 by omega), th_lst, if_neg c_49]
  · refine pm_if_ne (tgt := 15) dX11_last_9 (by decide) (fun c_9 => absurd (rfl) c_9) (fun c_9 => ?_)
    refine pm_bipush (v := (-101)) dX11_last_12 (by decide) ?_
    refine pm_iret dX11_last_14 rfl rfl rfl ?_
    refine th_r ?_ (hQ (Y 0))
    rw [th_lastA, if_neg hf]

set_option maxHeartbeats 600000 in
set_option maxRecDepth 100000 in
theorem c_X11_tree {l : Launch} {G : pm_G} {ad : Nat → Nat → Nat} {S : Nat → Nat} {A : Nat → Nat → Int32} {X : Nat → Int32} {Y : Nat → Nat → Int32} {F : Nat → Int64} {Hd Cs : Nat → Option Nat} {m : List pm_A} {Q : pm_T} {a b c d who p : Int32} (hI : th_I S A) (hQ : ∀ y, Q ad (some (.int (th_treeA S A a b c d who p))) (th_cw ad S A X (va_up Y 0 y) F Hd Cs m)) : pm_C l G m_X11_tree [.ref (ad 0 0), .int a, .int b, .int c, .int d, .int who, .int p] ad (th_cw ad S A X Y F Hd Cs m) Q := by
  have h8 := hI.2.2.2.2.1.1
  refine pm_met (by decide) (Nat.le_of_ble_eq_true rfl) ?_
  refine pm_aload_n dX11_tree_0 rfl rfl ?_
  refine pm_iload_n dX11_tree_1 rfl rfl ?_
  refine pm_iload_n dX11_tree_2 rfl rfl ?_
  refine pm_iload_n dX11_tree_3 rfl rfl ?_
  refine pm_iload dX11_tree_4 rfl ?_
  refine pm_callV (M2 := m_X11_takeSeats) (As := [_, _, _, _]) ok_X11_takeSeats (ci := 11) rfl kw_850 kw_852 kw_13 dX11_tree_6 rfl rfl rfl (Nat.le_of_ble_eq_true rfl) ⟨⟨Nat.le_of_ble_eq_true rfl, Nat.le_of_ble_eq_true rfl⟩, Nat.le_of_ble_eq_true rfl, Nat.le_of_ble_eq_true rfl⟩ ?_
  refine c_X11_takeSeats hI (fun i j k q hi hj hk hq ea eb ec ed hf y y0 y1 y2 y3 => ?_) (fun hf => ?_)
  · subst ea eb ec ed
    refine pm_if_ne (tgt := 15) dX11_tree_9 (by decide) (fun c_9 => ?_) (fun c_9 => absurd c_9 (by decide))
    refine pm_iload dX11_tree_15 rfl ?_
    refine pm_iconst (v := 0) dX11_tree_17 (by decide) ?_
    refine pm_iconst (v := 3) dX11_tree_18 (by decide) ?_
    refine pm_callS (M2 := m_X11_isOutside) (As := [_, _, _]) ok_X11_isOutside kw_361 kw_362 dX11_tree_19 rfl rfl (Nat.le_of_ble_eq_true rfl) ⟨⟨Nat.le_of_ble_eq_true rfl, Nat.le_of_ble_eq_true rfl⟩, Nat.le_of_ble_eq_true rfl, Nat.le_of_ble_eq_true rfl⟩ ?_
    refine c_X11_isOutside (fun u => ?_) (fun u v => ?_)
    · refine pm_if_ne (tgt := 35) dX11_tree_22 (by decide) (fun c_22 => ?_) (fun c_22 => absurd c_22 (by decide))
      refine pm_bipush (v := (-102)) dX11_tree_35 (by decide) ?_
      refine pm_iret dX11_tree_37 rfl rfl rfl ?_
      refine th_r ?_ (hQ y)
      rw [th_treeA, if_pos hf, if_neg (fun z => u z.1)]
    · obtain ⟨w, hw, rfl⟩ := th_03 u (n := 3) (by decide) v
      refine pm_if_ne (tgt := 35) dX11_tree_22 (by decide) (fun c_22 => absurd (rfl) c_22) (fun c_22 => ?_)
      refine pm_iload dX11_tree_25 rfl ?_
      refine pm_iconst (v := 0) dX11_tree_27 (by decide) ?_
      refine pm_iconst (v := 1) dX11_tree_28 (by decide) ?_
      refine pm_callS (M2 := m_X11_isOutside) (As := [_, _, _]) ok_X11_isOutside kw_361 kw_362 dX11_tree_29 rfl rfl (Nat.le_of_ble_eq_true rfl) ⟨⟨Nat.le_of_ble_eq_true rfl, Nat.le_of_ble_eq_true rfl⟩, Nat.le_of_ble_eq_true rfl, Nat.le_of_ble_eq_true rfl⟩ ?_
      refine c_X11_isOutside (fun u2 => ?_) (fun u2 v2 => ?_)
      rotate_left
      rcases (show w = 0 ∨ w = 1 ∨ w = 2 ∨ w = 3 by omega) with rfl | rfl | rfl | rfl
      · refine pm_if_eq (tgt := 38) dX11_tree_32 (by decide) (fun c_32 => ?_) (fun c_32 => absurd (rfl) c_32)
        refine pm_iload dX11_tree_38 rfl ?_
        refine pm_iconst (v := 2) dX11_tree_40 (by decide) ?_
        refine pm_icmp_ge (tgt := 48) dX11_tree_41 (by decide) (fun c_41 => absurd c_41 (by decide)) (fun c_41 => ?_)
        refine pm_iconst (v := 2) dX11_tree_44 (by decide) ?_
        refine pm_goto (tgt := 49) dX11_tree_45 (by decide) ?_
        refine pm_istore (lv2 := [(7, _), (0, _), (1, _), (2, _), (3, _), (4, _), (5, _), (6, _)]) dX11_tree_49 (Nat.le_of_ble_eq_true rfl) rfl ?_
        refine pm_iload dX11_tree_51 rfl ?_
        refine pm_iconst (v := 1) dX11_tree_53 (by decide) ?_
        refine pm_iadd dX11_tree_54 ?_
        rw [show (2 : Int32) + 1 = nI 3 from by decide]
        refine pm_istore (lv2 := [(8, _), (7, _), (0, _), (1, _), (2, _), (3, _), (4, _), (5, _), (6, _)]) dX11_tree_55 (Nat.le_of_ble_eq_true rfl) rfl ?_
        refine pm_aload_n dX11_tree_57 rfl rfl ?_
        refine pm_iload dX11_tree_58 rfl ?_
        refine pm_iload dX11_tree_60 rfl ?_
        refine pm_callV (M2 := m_X11_tenthsFor) (As := [_, _]) ok_X11_tenthsFor (ci := 11) rfl kw_855 kw_857 kw_14 dX11_tree_62 rfl rfl rfl (Nat.le_of_ble_eq_true rfl) ⟨⟨Nat.le_of_ble_eq_true rfl, Nat.le_of_ble_eq_true rfl⟩, Nat.le_of_ble_eq_true rfl, Nat.le_of_ble_eq_true rfl⟩ ?_
        refine c_X11_tenthsFor (Y := va_up Y 0 y) (i := 2) (j := 3) (by decide) (by decide) ?_
        rw [show va_up Y 0 y 0 2 = y 2 from rfl, show va_up Y 0 y 0 3 = y 3 from rfl, y2, y3]
        refine pm_aload_n dX11_tree_65 rfl rfl ?_
        refine pm_iload dX11_tree_66 rfl ?_
        refine pm_iload dX11_tree_68 rfl ?_
        refine pm_callV (M2 := m_X11_tenthsFor) (As := [_, _]) ok_X11_tenthsFor (ci := 11) rfl kw_855 kw_857 kw_14 dX11_tree_70 rfl rfl rfl (Nat.le_of_ble_eq_true rfl) ⟨⟨Nat.le_of_ble_eq_true rfl, Nat.le_of_ble_eq_true rfl⟩, Nat.le_of_ble_eq_true rfl, Nat.le_of_ble_eq_true rfl⟩ ?_
        refine c_X11_tenthsFor (Y := va_up Y 0 y) (i := 0) (j := 2) (by decide) (by decide) ?_
        rw [show va_up Y 0 y 0 0 = y 0 from rfl, show va_up Y 0 y 0 2 = y 2 from rfl, y0, y2]
        refine pm_imul dX11_tree_73 ?_
        refine pm_istore (lv2 := [(9, _), (8, _), (7, _), (0, _), (1, _), (2, _), (3, _), (4, _), (5, _), (6, _)]) dX11_tree_74 (Nat.le_of_ble_eq_true rfl) rfl ?_
        refine pm_aload_n dX11_tree_76 rfl rfl ?_
        refine pm_iload dX11_tree_77 rfl ?_
        refine pm_iload dX11_tree_79 rfl ?_
        refine pm_callV (M2 := m_X11_tenthsFor) (As := [_, _]) ok_X11_tenthsFor (ci := 11) rfl kw_855 kw_857 kw_14 dX11_tree_81 rfl rfl rfl (Nat.le_of_ble_eq_true rfl) ⟨⟨Nat.le_of_ble_eq_true rfl, Nat.le_of_ble_eq_true rfl⟩, Nat.le_of_ble_eq_true rfl, Nat.le_of_ble_eq_true rfl⟩ ?_
        refine c_X11_tenthsFor (Y := va_up Y 0 y) (i := 3) (j := 2) (by decide) (by decide) ?_
        rw [show va_up Y 0 y 0 3 = y 3 from rfl, show va_up Y 0 y 0 2 = y 2 from rfl, y3, y2]
        refine pm_aload_n dX11_tree_84 rfl rfl ?_
        refine pm_iload dX11_tree_85 rfl ?_
        refine pm_iload dX11_tree_87 rfl ?_
        refine pm_callV (M2 := m_X11_tenthsFor) (As := [_, _]) ok_X11_tenthsFor (ci := 11) rfl kw_855 kw_857 kw_14 dX11_tree_89 rfl rfl rfl (Nat.le_of_ble_eq_true rfl) ⟨⟨Nat.le_of_ble_eq_true rfl, Nat.le_of_ble_eq_true rfl⟩, Nat.le_of_ble_eq_true rfl, Nat.le_of_ble_eq_true rfl⟩ ?_
        refine c_X11_tenthsFor (Y := va_up Y 0 y) (i := 0) (j := 3) (by decide) (by decide) ?_
        rw [show va_up Y 0 y 0 0 = y 0 from rfl, show va_up Y 0 y 0 3 = y 3 from rfl, y0, y3]
        refine pm_imul dX11_tree_92 ?_
        refine pm_istore (lv2 := [(10, _), (9, _), (8, _), (7, _), (0, _), (1, _), (2, _), (3, _), (4, _), (5, _), (6, _)]) dX11_tree_93 (Nat.le_of_ble_eq_true rfl) rfl ?_
        refine pm_aload_n dX11_tree_95 rfl rfl ?_
        refine pm_iload dX11_tree_96 rfl ?_
        refine pm_iload dX11_tree_98 rfl ?_
        refine pm_iconst (v := 1) dX11_tree_100 (by decide) ?_
        refine pm_ixor dX11_tree_101 ?_
        rw [show nI 0 ^^^ 1 = nI 1 from by decide]
        refine pm_callV (M2 := m_X11_tenthsFor) (As := [_, _]) ok_X11_tenthsFor (ci := 11) rfl kw_855 kw_857 kw_14 dX11_tree_102 rfl rfl rfl (Nat.le_of_ble_eq_true rfl) ⟨⟨Nat.le_of_ble_eq_true rfl, Nat.le_of_ble_eq_true rfl⟩, Nat.le_of_ble_eq_true rfl, Nat.le_of_ble_eq_true rfl⟩ ?_
        refine c_X11_tenthsFor (Y := va_up Y 0 y) (i := 0) (j := 1) (by decide) (by decide) ?_
        rw [show va_up Y 0 y 0 0 = y 0 from rfl, show va_up Y 0 y 0 1 = y 1 from rfl, y0, y1]
        refine pm_iload dX11_tree_105 rfl ?_
        refine pm_iload dX11_tree_107 rfl ?_
        refine pm_iadd dX11_tree_109 ?_
        refine pm_imul dX11_tree_110 ?_
        have hu := th_tu_N (th_hdn A i) (th_hdn A j) (th_hdn A k) (th_hdn A q) (nI 0)
        have ew : th_wi (th_hdn A i) (th_hdn A j) (th_hdn A k) (th_hdn A q) = th_tu (th_hdn A i) (th_hdn A j) (th_hdn A k) (th_hdn A q) (nI 0) := rfl
        unfold th_wi at ew
        rw [ew, hu.1]
        refine pm_istore (lv2 := [(11, _), (10, _), (9, _), (8, _), (7, _), (0, _), (1, _), (2, _), (3, _), (4, _), (5, _), (6, _)]) dX11_tree_111 (Nat.le_of_ble_eq_true rfl) rfl ?_
        refine pm_iload dX11_tree_113 rfl ?_
        refine pm_i2l dX11_tree_115 ?_
        refine pm_ldc2 kw_830 dX11_tree_116 ?_
        refine pm_iconst (v := 3) dX11_tree_119 (by decide) ?_
        refine pm_callS (M2 := m_X11_power) (As := [_, _]) ok_X11_power kw_831 kw_775 dX11_tree_120 rfl rfl (Nat.le_of_ble_eq_true rfl) ⟨⟨Nat.le_of_ble_eq_true rfl, Nat.le_of_ble_eq_true rfl⟩, Nat.le_of_ble_eq_true rfl, Nat.le_of_ble_eq_true rfl⟩ ?_
        refine c_X11_power (n := 3) (by decide) ?_
        rw [show th_pw 10 3 = lN 1000 from by decide +kernel]
        refine pm_iload dX11_tree_123 rfl ?_
        rw [nI_l hu.2]
        refine pm_callS (M2 := m_X11_inLowestTerms) (As := [_, _, _]) ok_X11_inLowestTerms kw_832 kw_787 dX11_tree_125 rfl rfl (Nat.le_of_ble_eq_true rfl) ⟨⟨Nat.le_of_ble_eq_true rfl, Nat.le_of_ble_eq_true rfl⟩, Nat.le_of_ble_eq_true rfl, Nat.le_of_ble_eq_true rfl⟩ ?_
        refine c_X11_inLowestTerms (b := 1000) (by have := hu.2; omega) (by decide) (by decide) ?_
        refine pm_l2i dX11_tree_128 ?_
        refine pm_iret dX11_tree_129 rfl rfl rfl ?_
        have hcd : (0 ≤ nI 0 ∧ nI 0 ≤ 3) ∧ (0 ≤ p ∧ p ≤ 1) := ⟨by decide, u2, v2⟩
        refine th_r ?_ (hQ y)
        rw [th_treeA, if_pos hf, if_pos hcd, th_n_nI (show i < 2 ^ 31 by omega), th_n_nI (show j < 2 ^ 31 by omega), th_n_nI (show k < 2 ^ 31 by omega), th_n_nI (show q < 2 ^ 31 by omega)]
      · refine pm_if_eq (tgt := 38) dX11_tree_32 (by decide) (fun c_32 => ?_) (fun c_32 => absurd (rfl) c_32)
        refine pm_iload dX11_tree_38 rfl ?_
        refine pm_iconst (v := 2) dX11_tree_40 (by decide) ?_
        refine pm_icmp_ge (tgt := 48) dX11_tree_41 (by decide) (fun c_41 => absurd c_41 (by decide)) (fun c_41 => ?_)
        refine pm_iconst (v := 2) dX11_tree_44 (by decide) ?_
        refine pm_goto (tgt := 49) dX11_tree_45 (by decide) ?_
        refine pm_istore (lv2 := [(7, _), (0, _), (1, _), (2, _), (3, _), (4, _), (5, _), (6, _)]) dX11_tree_49 (Nat.le_of_ble_eq_true rfl) rfl ?_
        refine pm_iload dX11_tree_51 rfl ?_
        refine pm_iconst (v := 1) dX11_tree_53 (by decide) ?_
        refine pm_iadd dX11_tree_54 ?_
        rw [show (2 : Int32) + 1 = nI 3 from by decide]
        refine pm_istore (lv2 := [(8, _), (7, _), (0, _), (1, _), (2, _), (3, _), (4, _), (5, _), (6, _)]) dX11_tree_55 (Nat.le_of_ble_eq_true rfl) rfl ?_
        refine pm_aload_n dX11_tree_57 rfl rfl ?_
        refine pm_iload dX11_tree_58 rfl ?_
        refine pm_iload dX11_tree_60 rfl ?_
        refine pm_callV (M2 := m_X11_tenthsFor) (As := [_, _]) ok_X11_tenthsFor (ci := 11) rfl kw_855 kw_857 kw_14 dX11_tree_62 rfl rfl rfl (Nat.le_of_ble_eq_true rfl) ⟨⟨Nat.le_of_ble_eq_true rfl, Nat.le_of_ble_eq_true rfl⟩, Nat.le_of_ble_eq_true rfl, Nat.le_of_ble_eq_true rfl⟩ ?_
        refine c_X11_tenthsFor (Y := va_up Y 0 y) (i := 2) (j := 3) (by decide) (by decide) ?_
        rw [show va_up Y 0 y 0 2 = y 2 from rfl, show va_up Y 0 y 0 3 = y 3 from rfl, y2, y3]
        refine pm_aload_n dX11_tree_65 rfl rfl ?_
        refine pm_iload dX11_tree_66 rfl ?_
        refine pm_iload dX11_tree_68 rfl ?_
        refine pm_callV (M2 := m_X11_tenthsFor) (As := [_, _]) ok_X11_tenthsFor (ci := 11) rfl kw_855 kw_857 kw_14 dX11_tree_70 rfl rfl rfl (Nat.le_of_ble_eq_true rfl) ⟨⟨Nat.le_of_ble_eq_true rfl, Nat.le_of_ble_eq_true rfl⟩, Nat.le_of_ble_eq_true rfl, Nat.le_of_ble_eq_true rfl⟩ ?_
        refine c_X11_tenthsFor (Y := va_up Y 0 y) (i := 1) (j := 2) (by decide) (by decide) ?_
        rw [show va_up Y 0 y 0 1 = y 1 from rfl, show va_up Y 0 y 0 2 = y 2 from rfl, y1, y2]
        refine pm_imul dX11_tree_73 ?_
        refine pm_istore (lv2 := [(9, _), (8, _), (7, _), (0, _), (1, _), (2, _), (3, _), (4, _), (5, _), (6, _)]) dX11_tree_74 (Nat.le_of_ble_eq_true rfl) rfl ?_
        refine pm_aload_n dX11_tree_76 rfl rfl ?_
        refine pm_iload dX11_tree_77 rfl ?_
        refine pm_iload dX11_tree_79 rfl ?_
        refine pm_callV (M2 := m_X11_tenthsFor) (As := [_, _]) ok_X11_tenthsFor (ci := 11) rfl kw_855 kw_857 kw_14 dX11_tree_81 rfl rfl rfl (Nat.le_of_ble_eq_true rfl) ⟨⟨Nat.le_of_ble_eq_true rfl, Nat.le_of_ble_eq_true rfl⟩, Nat.le_of_ble_eq_true rfl, Nat.le_of_ble_eq_true rfl⟩ ?_
        refine c_X11_tenthsFor (Y := va_up Y 0 y) (i := 3) (j := 2) (by decide) (by decide) ?_
        rw [show va_up Y 0 y 0 3 = y 3 from rfl, show va_up Y 0 y 0 2 = y 2 from rfl, y3, y2]
        refine pm_aload_n dX11_tree_84 rfl rfl ?_
        refine pm_iload dX11_tree_85 rfl ?_
        refine pm_iload dX11_tree_87 rfl ?_
        refine pm_callV (M2 := m_X11_tenthsFor) (As := [_, _]) ok_X11_tenthsFor (ci := 11) rfl kw_855 kw_857 kw_14 dX11_tree_89 rfl rfl rfl (Nat.le_of_ble_eq_true rfl) ⟨⟨Nat.le_of_ble_eq_true rfl, Nat.le_of_ble_eq_true rfl⟩, Nat.le_of_ble_eq_true rfl, Nat.le_of_ble_eq_true rfl⟩ ?_
        refine c_X11_tenthsFor (Y := va_up Y 0 y) (i := 1) (j := 3) (by decide) (by decide) ?_
        rw [show va_up Y 0 y 0 1 = y 1 from rfl, show va_up Y 0 y 0 3 = y 3 from rfl, y1, y3]
        refine pm_imul dX11_tree_92 ?_
        refine pm_istore (lv2 := [(10, _), (9, _), (8, _), (7, _), (0, _), (1, _), (2, _), (3, _), (4, _), (5, _), (6, _)]) dX11_tree_93 (Nat.le_of_ble_eq_true rfl) rfl ?_
        refine pm_aload_n dX11_tree_95 rfl rfl ?_
        refine pm_iload dX11_tree_96 rfl ?_
        refine pm_iload dX11_tree_98 rfl ?_
        refine pm_iconst (v := 1) dX11_tree_100 (by decide) ?_
        refine pm_ixor dX11_tree_101 ?_
        rw [show nI 1 ^^^ 1 = nI 0 from by decide]
        refine pm_callV (M2 := m_X11_tenthsFor) (As := [_, _]) ok_X11_tenthsFor (ci := 11) rfl kw_855 kw_857 kw_14 dX11_tree_102 rfl rfl rfl (Nat.le_of_ble_eq_true rfl) ⟨⟨Nat.le_of_ble_eq_true rfl, Nat.le_of_ble_eq_true rfl⟩, Nat.le_of_ble_eq_true rfl, Nat.le_of_ble_eq_true rfl⟩ ?_
        refine c_X11_tenthsFor (Y := va_up Y 0 y) (i := 1) (j := 0) (by decide) (by decide) ?_
        rw [show va_up Y 0 y 0 1 = y 1 from rfl, show va_up Y 0 y 0 0 = y 0 from rfl, y1, y0]
        refine pm_iload dX11_tree_105 rfl ?_
        refine pm_iload dX11_tree_107 rfl ?_
        refine pm_iadd dX11_tree_109 ?_
        refine pm_imul dX11_tree_110 ?_
        have hu := th_tu_N (th_hdn A i) (th_hdn A j) (th_hdn A k) (th_hdn A q) (nI 1)
        have ew : th_wi (th_hdn A j) (th_hdn A i) (th_hdn A k) (th_hdn A q) = th_tu (th_hdn A i) (th_hdn A j) (th_hdn A k) (th_hdn A q) (nI 1) := rfl
        unfold th_wi at ew
        rw [ew, hu.1]
        refine pm_istore (lv2 := [(11, _), (10, _), (9, _), (8, _), (7, _), (0, _), (1, _), (2, _), (3, _), (4, _), (5, _), (6, _)]) dX11_tree_111 (Nat.le_of_ble_eq_true rfl) rfl ?_
        refine pm_iload dX11_tree_113 rfl ?_
        refine pm_i2l dX11_tree_115 ?_
        refine pm_ldc2 kw_830 dX11_tree_116 ?_
        refine pm_iconst (v := 3) dX11_tree_119 (by decide) ?_
        refine pm_callS (M2 := m_X11_power) (As := [_, _]) ok_X11_power kw_831 kw_775 dX11_tree_120 rfl rfl (Nat.le_of_ble_eq_true rfl) ⟨⟨Nat.le_of_ble_eq_true rfl, Nat.le_of_ble_eq_true rfl⟩, Nat.le_of_ble_eq_true rfl, Nat.le_of_ble_eq_true rfl⟩ ?_
        refine c_X11_power (n := 3) (by decide) ?_
        rw [show th_pw 10 3 = lN 1000 from by decide +kernel]
        refine pm_iload dX11_tree_123 rfl ?_
        rw [nI_l hu.2]
        refine pm_callS (M2 := m_X11_inLowestTerms) (As := [_, _, _]) ok_X11_inLowestTerms kw_832 kw_787 dX11_tree_125 rfl rfl (Nat.le_of_ble_eq_true rfl) ⟨⟨Nat.le_of_ble_eq_true rfl, Nat.le_of_ble_eq_true rfl⟩, Nat.le_of_ble_eq_true rfl, Nat.le_of_ble_eq_true rfl⟩ ?_
        refine c_X11_inLowestTerms (b := 1000) (by have := hu.2; omega) (by decide) (by decide) ?_
        refine pm_l2i dX11_tree_128 ?_
        refine pm_iret dX11_tree_129 rfl rfl rfl ?_
        have hcd : (0 ≤ nI 1 ∧ nI 1 ≤ 3) ∧ (0 ≤ p ∧ p ≤ 1) := ⟨by decide, u2, v2⟩
        refine th_r ?_ (hQ y)
        rw [th_treeA, if_pos hf, if_pos hcd, th_n_nI (show i < 2 ^ 31 by omega), th_n_nI (show j < 2 ^ 31 by omega), th_n_nI (show k < 2 ^ 31 by omega), th_n_nI (show q < 2 ^ 31 by omega)]
      · refine pm_if_eq (tgt := 38) dX11_tree_32 (by decide) (fun c_32 => ?_) (fun c_32 => absurd (rfl) c_32)
        refine pm_iload dX11_tree_38 rfl ?_
        refine pm_iconst (v := 2) dX11_tree_40 (by decide) ?_
        refine pm_icmp_ge (tgt := 48) dX11_tree_41 (by decide) (fun c_41 => ?_) (fun c_41 => absurd (by decide) c_41)
        refine pm_iconst (v := 0) dX11_tree_48 (by decide) ?_
        refine pm_istore (lv2 := [(7, _), (0, _), (1, _), (2, _), (3, _), (4, _), (5, _), (6, _)]) dX11_tree_49 (Nat.le_of_ble_eq_true rfl) rfl ?_
        refine pm_iload dX11_tree_51 rfl ?_
        refine pm_iconst (v := 1) dX11_tree_53 (by decide) ?_
        refine pm_iadd dX11_tree_54 ?_
        rw [show (0 : Int32) + 1 = nI 1 from by decide]
        refine pm_istore (lv2 := [(8, _), (7, _), (0, _), (1, _), (2, _), (3, _), (4, _), (5, _), (6, _)]) dX11_tree_55 (Nat.le_of_ble_eq_true rfl) rfl ?_
        refine pm_aload_n dX11_tree_57 rfl rfl ?_
        refine pm_iload dX11_tree_58 rfl ?_
        refine pm_iload dX11_tree_60 rfl ?_
        refine pm_callV (M2 := m_X11_tenthsFor) (As := [_, _]) ok_X11_tenthsFor (ci := 11) rfl kw_855 kw_857 kw_14 dX11_tree_62 rfl rfl rfl (Nat.le_of_ble_eq_true rfl) ⟨⟨Nat.le_of_ble_eq_true rfl, Nat.le_of_ble_eq_true rfl⟩, Nat.le_of_ble_eq_true rfl, Nat.le_of_ble_eq_true rfl⟩ ?_
        refine c_X11_tenthsFor (Y := va_up Y 0 y) (i := 0) (j := 1) (by decide) (by decide) ?_
        rw [show va_up Y 0 y 0 0 = y 0 from rfl, show va_up Y 0 y 0 1 = y 1 from rfl, y0, y1]
        refine pm_aload_n dX11_tree_65 rfl rfl ?_
        refine pm_iload dX11_tree_66 rfl ?_
        refine pm_iload dX11_tree_68 rfl ?_
        refine pm_callV (M2 := m_X11_tenthsFor) (As := [_, _]) ok_X11_tenthsFor (ci := 11) rfl kw_855 kw_857 kw_14 dX11_tree_70 rfl rfl rfl (Nat.le_of_ble_eq_true rfl) ⟨⟨Nat.le_of_ble_eq_true rfl, Nat.le_of_ble_eq_true rfl⟩, Nat.le_of_ble_eq_true rfl, Nat.le_of_ble_eq_true rfl⟩ ?_
        refine c_X11_tenthsFor (Y := va_up Y 0 y) (i := 2) (j := 0) (by decide) (by decide) ?_
        rw [show va_up Y 0 y 0 2 = y 2 from rfl, show va_up Y 0 y 0 0 = y 0 from rfl, y2, y0]
        refine pm_imul dX11_tree_73 ?_
        refine pm_istore (lv2 := [(9, _), (8, _), (7, _), (0, _), (1, _), (2, _), (3, _), (4, _), (5, _), (6, _)]) dX11_tree_74 (Nat.le_of_ble_eq_true rfl) rfl ?_
        refine pm_aload_n dX11_tree_76 rfl rfl ?_
        refine pm_iload dX11_tree_77 rfl ?_
        refine pm_iload dX11_tree_79 rfl ?_
        refine pm_callV (M2 := m_X11_tenthsFor) (As := [_, _]) ok_X11_tenthsFor (ci := 11) rfl kw_855 kw_857 kw_14 dX11_tree_81 rfl rfl rfl (Nat.le_of_ble_eq_true rfl) ⟨⟨Nat.le_of_ble_eq_true rfl, Nat.le_of_ble_eq_true rfl⟩, Nat.le_of_ble_eq_true rfl, Nat.le_of_ble_eq_true rfl⟩ ?_
        refine c_X11_tenthsFor (Y := va_up Y 0 y) (i := 1) (j := 0) (by decide) (by decide) ?_
        rw [show va_up Y 0 y 0 1 = y 1 from rfl, show va_up Y 0 y 0 0 = y 0 from rfl, y1, y0]
        refine pm_aload_n dX11_tree_84 rfl rfl ?_
        refine pm_iload dX11_tree_85 rfl ?_
        refine pm_iload dX11_tree_87 rfl ?_
        refine pm_callV (M2 := m_X11_tenthsFor) (As := [_, _]) ok_X11_tenthsFor (ci := 11) rfl kw_855 kw_857 kw_14 dX11_tree_89 rfl rfl rfl (Nat.le_of_ble_eq_true rfl) ⟨⟨Nat.le_of_ble_eq_true rfl, Nat.le_of_ble_eq_true rfl⟩, Nat.le_of_ble_eq_true rfl, Nat.le_of_ble_eq_true rfl⟩ ?_
        refine c_X11_tenthsFor (Y := va_up Y 0 y) (i := 2) (j := 1) (by decide) (by decide) ?_
        rw [show va_up Y 0 y 0 2 = y 2 from rfl, show va_up Y 0 y 0 1 = y 1 from rfl, y2, y1]
        refine pm_imul dX11_tree_92 ?_
        refine pm_istore (lv2 := [(10, _), (9, _), (8, _), (7, _), (0, _), (1, _), (2, _), (3, _), (4, _), (5, _), (6, _)]) dX11_tree_93 (Nat.le_of_ble_eq_true rfl) rfl ?_
        refine pm_aload_n dX11_tree_95 rfl rfl ?_
        refine pm_iload dX11_tree_96 rfl ?_
        refine pm_iload dX11_tree_98 rfl ?_
        refine pm_iconst (v := 1) dX11_tree_100 (by decide) ?_
        refine pm_ixor dX11_tree_101 ?_
        rw [show nI 2 ^^^ 1 = nI 3 from by decide]
        refine pm_callV (M2 := m_X11_tenthsFor) (As := [_, _]) ok_X11_tenthsFor (ci := 11) rfl kw_855 kw_857 kw_14 dX11_tree_102 rfl rfl rfl (Nat.le_of_ble_eq_true rfl) ⟨⟨Nat.le_of_ble_eq_true rfl, Nat.le_of_ble_eq_true rfl⟩, Nat.le_of_ble_eq_true rfl, Nat.le_of_ble_eq_true rfl⟩ ?_
        refine c_X11_tenthsFor (Y := va_up Y 0 y) (i := 2) (j := 3) (by decide) (by decide) ?_
        rw [show va_up Y 0 y 0 2 = y 2 from rfl, show va_up Y 0 y 0 3 = y 3 from rfl, y2, y3]
        refine pm_iload dX11_tree_105 rfl ?_
        refine pm_iload dX11_tree_107 rfl ?_
        refine pm_iadd dX11_tree_109 ?_
        refine pm_imul dX11_tree_110 ?_
        have hu := th_tu_N (th_hdn A i) (th_hdn A j) (th_hdn A k) (th_hdn A q) (nI 2)
        have ew : th_wi (th_hdn A k) (th_hdn A q) (th_hdn A i) (th_hdn A j) = th_tu (th_hdn A i) (th_hdn A j) (th_hdn A k) (th_hdn A q) (nI 2) := rfl
        unfold th_wi at ew
        rw [ew, hu.1]
        refine pm_istore (lv2 := [(11, _), (10, _), (9, _), (8, _), (7, _), (0, _), (1, _), (2, _), (3, _), (4, _), (5, _), (6, _)]) dX11_tree_111 (Nat.le_of_ble_eq_true rfl) rfl ?_
        refine pm_iload dX11_tree_113 rfl ?_
        refine pm_i2l dX11_tree_115 ?_
        refine pm_ldc2 kw_830 dX11_tree_116 ?_
        refine pm_iconst (v := 3) dX11_tree_119 (by decide) ?_
        refine pm_callS (M2 := m_X11_power) (As := [_, _]) ok_X11_power kw_831 kw_775 dX11_tree_120 rfl rfl (Nat.le_of_ble_eq_true rfl) ⟨⟨Nat.le_of_ble_eq_true rfl, Nat.le_of_ble_eq_true rfl⟩, Nat.le_of_ble_eq_true rfl, Nat.le_of_ble_eq_true rfl⟩ ?_
        refine c_X11_power (n := 3) (by decide) ?_
        rw [show th_pw 10 3 = lN 1000 from by decide +kernel]
        refine pm_iload dX11_tree_123 rfl ?_
        rw [nI_l hu.2]
        refine pm_callS (M2 := m_X11_inLowestTerms) (As := [_, _, _]) ok_X11_inLowestTerms kw_832 kw_787 dX11_tree_125 rfl rfl (Nat.le_of_ble_eq_true rfl) ⟨⟨Nat.le_of_ble_eq_true rfl, Nat.le_of_ble_eq_true rfl⟩, Nat.le_of_ble_eq_true rfl, Nat.le_of_ble_eq_true rfl⟩ ?_
        refine c_X11_inLowestTerms (b := 1000) (by have := hu.2; omega) (by decide) (by decide) ?_
        refine pm_l2i dX11_tree_128 ?_
        refine pm_iret dX11_tree_129 rfl rfl rfl ?_
        have hcd : (0 ≤ nI 2 ∧ nI 2 ≤ 3) ∧ (0 ≤ p ∧ p ≤ 1) := ⟨by decide, u2, v2⟩
        refine th_r ?_ (hQ y)
        rw [th_treeA, if_pos hf, if_pos hcd, th_n_nI (show i < 2 ^ 31 by omega), th_n_nI (show j < 2 ^ 31 by omega), th_n_nI (show k < 2 ^ 31 by omega), th_n_nI (show q < 2 ^ 31 by omega)]
      · refine pm_if_eq (tgt := 38) dX11_tree_32 (by decide) (fun c_32 => ?_) (fun c_32 => absurd (rfl) c_32)
        refine pm_iload dX11_tree_38 rfl ?_
        refine pm_iconst (v := 2) dX11_tree_40 (by decide) ?_
        refine pm_icmp_ge (tgt := 48) dX11_tree_41 (by decide) (fun c_41 => ?_) (fun c_41 => absurd (by decide) c_41)
        refine pm_iconst (v := 0) dX11_tree_48 (by decide) ?_
        refine pm_istore (lv2 := [(7, _), (0, _), (1, _), (2, _), (3, _), (4, _), (5, _), (6, _)]) dX11_tree_49 (Nat.le_of_ble_eq_true rfl) rfl ?_
        refine pm_iload dX11_tree_51 rfl ?_
        refine pm_iconst (v := 1) dX11_tree_53 (by decide) ?_
        refine pm_iadd dX11_tree_54 ?_
        rw [show (0 : Int32) + 1 = nI 1 from by decide]
        refine pm_istore (lv2 := [(8, _), (7, _), (0, _), (1, _), (2, _), (3, _), (4, _), (5, _), (6, _)]) dX11_tree_55 (Nat.le_of_ble_eq_true rfl) rfl ?_
        refine pm_aload_n dX11_tree_57 rfl rfl ?_
        refine pm_iload dX11_tree_58 rfl ?_
        refine pm_iload dX11_tree_60 rfl ?_
        refine pm_callV (M2 := m_X11_tenthsFor) (As := [_, _]) ok_X11_tenthsFor (ci := 11) rfl kw_855 kw_857 kw_14 dX11_tree_62 rfl rfl rfl (Nat.le_of_ble_eq_true rfl) ⟨⟨Nat.le_of_ble_eq_true rfl, Nat.le_of_ble_eq_true rfl⟩, Nat.le_of_ble_eq_true rfl, Nat.le_of_ble_eq_true rfl⟩ ?_
        refine c_X11_tenthsFor (Y := va_up Y 0 y) (i := 0) (j := 1) (by decide) (by decide) ?_
        rw [show va_up Y 0 y 0 0 = y 0 from rfl, show va_up Y 0 y 0 1 = y 1 from rfl, y0, y1]
        refine pm_aload_n dX11_tree_65 rfl rfl ?_
        refine pm_iload dX11_tree_66 rfl ?_
        refine pm_iload dX11_tree_68 rfl ?_
        refine pm_callV (M2 := m_X11_tenthsFor) (As := [_, _]) ok_X11_tenthsFor (ci := 11) rfl kw_855 kw_857 kw_14 dX11_tree_70 rfl rfl rfl (Nat.le_of_ble_eq_true rfl) ⟨⟨Nat.le_of_ble_eq_true rfl, Nat.le_of_ble_eq_true rfl⟩, Nat.le_of_ble_eq_true rfl, Nat.le_of_ble_eq_true rfl⟩ ?_
        refine c_X11_tenthsFor (Y := va_up Y 0 y) (i := 3) (j := 0) (by decide) (by decide) ?_
        rw [show va_up Y 0 y 0 3 = y 3 from rfl, show va_up Y 0 y 0 0 = y 0 from rfl, y3, y0]
        refine pm_imul dX11_tree_73 ?_
        refine pm_istore (lv2 := [(9, _), (8, _), (7, _), (0, _), (1, _), (2, _), (3, _), (4, _), (5, _), (6, _)]) dX11_tree_74 (Nat.le_of_ble_eq_true rfl) rfl ?_
        refine pm_aload_n dX11_tree_76 rfl rfl ?_
        refine pm_iload dX11_tree_77 rfl ?_
        refine pm_iload dX11_tree_79 rfl ?_
        refine pm_callV (M2 := m_X11_tenthsFor) (As := [_, _]) ok_X11_tenthsFor (ci := 11) rfl kw_855 kw_857 kw_14 dX11_tree_81 rfl rfl rfl (Nat.le_of_ble_eq_true rfl) ⟨⟨Nat.le_of_ble_eq_true rfl, Nat.le_of_ble_eq_true rfl⟩, Nat.le_of_ble_eq_true rfl, Nat.le_of_ble_eq_true rfl⟩ ?_
        refine c_X11_tenthsFor (Y := va_up Y 0 y) (i := 1) (j := 0) (by decide) (by decide) ?_
        rw [show va_up Y 0 y 0 1 = y 1 from rfl, show va_up Y 0 y 0 0 = y 0 from rfl, y1, y0]
        refine pm_aload_n dX11_tree_84 rfl rfl ?_
        refine pm_iload dX11_tree_85 rfl ?_
        refine pm_iload dX11_tree_87 rfl ?_
        refine pm_callV (M2 := m_X11_tenthsFor) (As := [_, _]) ok_X11_tenthsFor (ci := 11) rfl kw_855 kw_857 kw_14 dX11_tree_89 rfl rfl rfl (Nat.le_of_ble_eq_true rfl) ⟨⟨Nat.le_of_ble_eq_true rfl, Nat.le_of_ble_eq_true rfl⟩, Nat.le_of_ble_eq_true rfl, Nat.le_of_ble_eq_true rfl⟩ ?_
        refine c_X11_tenthsFor (Y := va_up Y 0 y) (i := 3) (j := 1) (by decide) (by decide) ?_
        rw [show va_up Y 0 y 0 3 = y 3 from rfl, show va_up Y 0 y 0 1 = y 1 from rfl, y3, y1]
        refine pm_imul dX11_tree_92 ?_
        refine pm_istore (lv2 := [(10, _), (9, _), (8, _), (7, _), (0, _), (1, _), (2, _), (3, _), (4, _), (5, _), (6, _)]) dX11_tree_93 (Nat.le_of_ble_eq_true rfl) rfl ?_
        refine pm_aload_n dX11_tree_95 rfl rfl ?_
        refine pm_iload dX11_tree_96 rfl ?_
        refine pm_iload dX11_tree_98 rfl ?_
        refine pm_iconst (v := 1) dX11_tree_100 (by decide) ?_
        refine pm_ixor dX11_tree_101 ?_
        rw [show nI 3 ^^^ 1 = nI 2 from by decide]
        refine pm_callV (M2 := m_X11_tenthsFor) (As := [_, _]) ok_X11_tenthsFor (ci := 11) rfl kw_855 kw_857 kw_14 dX11_tree_102 rfl rfl rfl (Nat.le_of_ble_eq_true rfl) ⟨⟨Nat.le_of_ble_eq_true rfl, Nat.le_of_ble_eq_true rfl⟩, Nat.le_of_ble_eq_true rfl, Nat.le_of_ble_eq_true rfl⟩ ?_
        refine c_X11_tenthsFor (Y := va_up Y 0 y) (i := 3) (j := 2) (by decide) (by decide) ?_
        rw [show va_up Y 0 y 0 3 = y 3 from rfl, show va_up Y 0 y 0 2 = y 2 from rfl, y3, y2]
        refine pm_iload dX11_tree_105 rfl ?_
        refine pm_iload dX11_tree_107 rfl ?_
        refine pm_iadd dX11_tree_109 ?_
        refine pm_imul dX11_tree_110 ?_
        have hu := th_tu_N (th_hdn A i) (th_hdn A j) (th_hdn A k) (th_hdn A q) (nI 3)
        have ew : th_wi (th_hdn A q) (th_hdn A k) (th_hdn A i) (th_hdn A j) = th_tu (th_hdn A i) (th_hdn A j) (th_hdn A k) (th_hdn A q) (nI 3) := rfl
        unfold th_wi at ew
        rw [ew, hu.1]
        refine pm_istore (lv2 := [(11, _), (10, _), (9, _), (8, _), (7, _), (0, _), (1, _), (2, _), (3, _), (4, _), (5, _), (6, _)]) dX11_tree_111 (Nat.le_of_ble_eq_true rfl) rfl ?_
        refine pm_iload dX11_tree_113 rfl ?_
        refine pm_i2l dX11_tree_115 ?_
        refine pm_ldc2 kw_830 dX11_tree_116 ?_
        refine pm_iconst (v := 3) dX11_tree_119 (by decide) ?_
        refine pm_callS (M2 := m_X11_power) (As := [_, _]) ok_X11_power kw_831 kw_775 dX11_tree_120 rfl rfl (Nat.le_of_ble_eq_true rfl) ⟨⟨Nat.le_of_ble_eq_true rfl, Nat.le_of_ble_eq_true rfl⟩, Nat.le_of_ble_eq_true rfl, Nat.le_of_ble_eq_true rfl⟩ ?_
        refine c_X11_power (n := 3) (by decide) ?_
        rw [show th_pw 10 3 = lN 1000 from by decide +kernel]
        refine pm_iload dX11_tree_123 rfl ?_
        rw [nI_l hu.2]
        refine pm_callS (M2 := m_X11_inLowestTerms) (As := [_, _, _]) ok_X11_inLowestTerms kw_832 kw_787 dX11_tree_125 rfl rfl (Nat.le_of_ble_eq_true rfl) ⟨⟨Nat.le_of_ble_eq_true rfl, Nat.le_of_ble_eq_true rfl⟩, Nat.le_of_ble_eq_true rfl, Nat.le_of_ble_eq_true rfl⟩ ?_
        refine c_X11_inLowestTerms (b := 1000) (by have := hu.2; omega) (by decide) (by decide) ?_
        refine pm_l2i dX11_tree_128 ?_
        refine pm_iret dX11_tree_129 rfl rfl rfl ?_
        have hcd : (0 ≤ nI 3 ∧ nI 3 ≤ 3) ∧ (0 ≤ p ∧ p ≤ 1) := ⟨by decide, u2, v2⟩
        refine th_r ?_ (hQ y)
        rw [th_treeA, if_pos hf, if_pos hcd, th_n_nI (show i < 2 ^ 31 by omega), th_n_nI (show j < 2 ^ 31 by omega), th_n_nI (show k < 2 ^ 31 by omega), th_n_nI (show q < 2 ^ 31 by omega)]
      · refine pm_if_eq (tgt := 38) dX11_tree_32 (by decide) (fun c_32 => absurd c_32 (by decide)) (fun c_32 => ?_)
        refine pm_bipush (v := (-102)) dX11_tree_35 (by decide) ?_
        refine pm_iret dX11_tree_37 rfl rfl rfl ?_
        refine th_r ?_ (hQ y)
        rw [th_treeA, if_pos hf, if_neg (fun z => u2 z.2)]
  · refine pm_if_ne (tgt := 15) dX11_tree_9 (by decide) (fun c_9 => absurd (rfl) c_9) (fun c_9 => ?_)
    refine pm_bipush (v := (-101)) dX11_tree_12 (by decide) ?_
    refine pm_iret dX11_tree_14 rfl rfl rfl ?_
    refine th_r ?_ (hQ (Y 0))
    rw [th_treeA, if_neg hf]

def th_runA (w t p : Int32) : Int32 := if (1 ≤ w ∧ w ≤ 9) ∧ (0 ≤ t ∧ t ≤ 10) ∧ (0 ≤ p ∧ p ≤ 1) then (th_trm (th_n t ^ th_n w) (10 ^ th_n w) p).toInt32 else -102
theorem th_pwN (t : Nat) : ∀ k, th_pw (lN t) k = lN (t ^ k) := by
  intro k
  induction k with
  | zero => rfl
  | succ k ih => rw [th_pw, ih, lN_mul, Nat.pow_succ]
theorem th_pwb {t w : Nat} (ht : t ≤ 10) (hw : w ≤ 9) : t ^ w < 2 ^ 31 := by
  have h1 : t ^ w ≤ 10 ^ w := Nat.pow_le_pow_left ht w
  have h2 : 10 ^ w ≤ 10 ^ 9 := Nat.pow_le_pow_right (by decide) hw
  omega
set_option maxHeartbeats 600000 in
set_option maxRecDepth 100000 in
theorem c_X12_run {l : Launch} {G : pm_G} {ad : Nat → Nat → Nat} {a0 a3 a4 a5 a6 a7 : List pm_A} {a1 a2 : Nat → Option pm_A} {S : Nat → Nat} {A : Nat → Nat → Int32} {s : Nat → Int32} {B : Nat → Nat → Int32} {hs : Int64} {Q : pm_T} {x y p : Int32} (hQ : Q ad (some (.int (th_runA x y p))) (a0, a1, a2, a3, a4, a5, a6, a7, th_mp ad S A s B hs)) : pm_C l G m_X12_run [.ref (ad 8 0), .int x, .int y, .int p] ad (a0, a1, a2, a3, a4, a5, a6, a7, th_mp ad S A s B hs) Q := by
  refine pm_met (by decide) (Nat.le_of_ble_eq_true rfl) ?_
  refine pm_iload_n dX12_run_0 rfl rfl ?_
  refine pm_i2l dX12_run_1 ?_
  refine pm_lconst (v := 1) dX12_run_2 (by decide) ?_
  refine pm_ldc2 kw_1148 dX12_run_3 ?_
  refine pm_callS (M2 := m_X12_in) (As := [_, _, _]) ok_X12_in kw_1115 kw_1116 dX12_run_6 rfl rfl (Nat.le_of_ble_eq_true rfl) ⟨⟨Nat.le_of_ble_eq_true rfl, Nat.le_of_ble_eq_true rfl⟩, Nat.le_of_ble_eq_true rfl, Nat.le_of_ble_eq_true rfl⟩ ?_
  refine c_X12_in32 (lo := 1) (hi := 9) rfl rfl (fun u v => ?_) (fun u => ?_)
  · obtain ⟨w, hw, rfl⟩ := th_03 (Int32.le_trans (show (0 : Int32) ≤ 1 by decide) u) (n := 9) (by decide) v
    refine pm_if_eq (tgt := 31) dX12_run_9 (by decide) (fun c_9 => absurd c_9 (by decide)) (fun c_9 => ?_)
    refine pm_iload_n dX12_run_12 rfl rfl ?_
    refine pm_i2l dX12_run_13 ?_
    refine pm_lconst (v := 0) dX12_run_14 (by decide) ?_
    refine pm_ldc2 kw_1287 dX12_run_15 ?_
    refine pm_callS (M2 := m_X12_in) (As := [_, _, _]) ok_X12_in kw_1115 kw_1116 dX12_run_18 rfl rfl (Nat.le_of_ble_eq_true rfl) ⟨⟨Nat.le_of_ble_eq_true rfl, Nat.le_of_ble_eq_true rfl⟩, Nat.le_of_ble_eq_true rfl, Nat.le_of_ble_eq_true rfl⟩ ?_
    refine c_X12_in32 (lo := 0) (hi := 10) rfl rfl (fun u2 v2 => ?_) (fun u => ?_)
    · obtain ⟨t, ht, rfl⟩ := th_03 u2 (n := 10) (by decide) v2
      have hb1 := th_pwb ht hw
      have hb2 := th_pwb (Nat.le_refl 10) hw
      refine pm_if_eq (tgt := 31) dX12_run_21 (by decide) (fun c_21 => absurd c_21 (by decide)) (fun c_21 => ?_)
      refine pm_iload_n dX12_run_24 rfl rfl ?_
      refine pm_callS (M2 := m_X12_isPart) (As := [_]) ok_X12_isPart kw_1273 kw_1274 dX12_run_25 rfl rfl (Nat.le_of_ble_eq_true rfl) ⟨⟨Nat.le_of_ble_eq_true rfl, Nat.le_of_ble_eq_true rfl⟩, Nat.le_of_ble_eq_true rfl, Nat.le_of_ble_eq_true rfl⟩ ?_
      refine c_X12_isPart (fun u3 v3 => ?_) (fun u => ?_)
      · refine pm_if_ne (tgt := 34) dX12_run_28 (by decide) (fun c_28 => ?_) (fun c_28 => absurd c_28 (by decide))
        refine pm_lconst (v := 1) dX12_run_34 (by decide) ?_
        refine pm_lstore (lv2 := [(4, _), (0, _), (1, _), (2, _), (3, _)]) dX12_run_35 (Nat.le_of_ble_eq_true rfl) rfl ?_
        refine pm_lconst (v := 1) dX12_run_37 (by decide) ?_
        refine pm_lstore (lv2 := [(6, _), (4, _), (0, _), (1, _), (2, _), (3, _)]) dX12_run_38 (Nat.le_of_ble_eq_true rfl) rfl ?_
        refine pm_iconst (v := 0) dX12_run_40 (by decide) ?_
        refine pm_istore (lv2 := [(8, _), (6, _), (4, _), (0, _), (1, _), (2, _), (3, _)]) dX12_run_41 (Nat.le_of_ble_eq_true rfl) rfl ?_
        suffices H : ∀ k, k ≤ w → pm_W l G m_X12_run ad 43 [(8, .int (nI k)), (6, .long (lN (10 ^ k))), (4, .long (lN (t ^ k))), (0, .ref (ad 8 0)), (1, .int (nI w)), (2, .int (nI t)), (3, .int p)] [] (a0, a1, a2, a3, a4, a5, a6, a7, th_mp ad S A s B hs) 0 0 Q from H 0 (Nat.zero_le _)
        refine th_loop _ ?_
        intro k hk kk
        refine pm_iload dX12_run_43 rfl ?_
        refine pm_iload_n dX12_run_45 rfl rfl ?_
        refine pm_icmp_ge (tgt := 70) dX12_run_46 (by decide) (fun c_46 => ?_) (fun c_46 => ?_)
        · have he : k = w := by
            rw [nI_leI (by omega) (by omega)] at c_46
            omega
          subst he
          refine pm_lload dX12_run_70 rfl ?_
          refine pm_lload dX12_run_72 rfl ?_
          refine pm_iload_n dX12_run_74 rfl rfl ?_
          refine pm_callS (M2 := m_X12_term) (As := [_, _, _]) ok_X12_term kw_1288 kw_1289 dX12_run_75 rfl rfl (Nat.le_of_ble_eq_true rfl) ⟨⟨Nat.le_of_ble_eq_true rfl, Nat.le_of_ble_eq_true rfl⟩, Nat.le_of_ble_eq_true rfl, Nat.le_of_ble_eq_true rfl⟩ ?_
          refine c_X12_term (by omega) (by omega) (Nat.pow_pos (by decide)) ?_
          refine pm_l2i dX12_run_78 ?_
          refine pm_iret dX12_run_79 rfl rfl rfl ?_
          have hcd : (1 ≤ nI k ∧ nI k ≤ 9) ∧ (0 ≤ nI t ∧ nI t ≤ 10) ∧ (0 ≤ p ∧ p ≤ 1) := ⟨⟨u, v⟩, ⟨u2, v2⟩, u3, v3⟩
          refine th_r ?_ hQ
          rw [th_runA, if_pos hcd, th_n_nI (show k < 2 ^ 31 by omega), th_n_nI (show t < 2 ^ 31 by omega)]
        · have hlt : k < w := by
            rw [nI_leI (by omega) (by omega)] at c_46
            omega
          refine pm_lload dX12_run_49 rfl ?_
          refine pm_iload_n dX12_run_51 rfl rfl ?_
          refine pm_i2l dX12_run_52 ?_
          rw [nI_l (by omega)]
          refine pm_lmul dX12_run_53 ?_
          rw [lN_mul, ← Nat.pow_succ]
          refine pm_lstore (lv2 := [(4, _), (8, _), (6, _), (0, _), (1, _), (2, _), (3, _)]) dX12_run_54 (Nat.le_of_ble_eq_true rfl) rfl ?_
          refine pm_lload dX12_run_56 rfl ?_
          refine pm_ldc2 kw_1287 dX12_run_58 ?_
          refine pm_lmul dX12_run_61 ?_
          rw [show lN (10 ^ k) * 10 = lN (10 ^ (k + 1)) from (lN_mul (10 ^ k) 10).trans (by rw [← Nat.pow_succ])]
          refine pm_lstore (lv2 := [(6, _), (4, _), (8, _), (0, _), (1, _), (2, _), (3, _)]) dX12_run_62 (Nat.le_of_ble_eq_true rfl) rfl ?_
          refine pm_iinc (lv2 := [(8, _), (6, _), (4, _), (0, _), (1, _), (2, _), (3, _)]) dX12_run_64 rfl (nI_1 k) (Nat.le_of_ble_eq_true rfl) rfl ?_
          refine pm_goto (tgt := 43) dX12_run_67 (by decide) ?_
          refine pm_pick [0, 1, 2, 3, 4, 5, 6] rfl ?_
          exact kk hlt
      · refine pm_if_ne (tgt := 34) dX12_run_28 (by decide) (fun c_28 => absurd (rfl) c_28) (fun c_28 => ?_)
        refine pm_bipush (v := (-102)) dX12_run_31 (by decide) ?_
        refine pm_iret dX12_run_33 rfl rfl rfl ?_
        refine th_r ?_ hQ
        rw [th_runA, if_neg (fun z => u z.2.2)]
    · refine pm_if_eq (tgt := 31) dX12_run_21 (by decide) (fun c_21 => ?_) (fun c_21 => absurd (rfl) c_21)
      refine pm_bipush (v := (-102)) dX12_run_31 (by decide) ?_
      refine pm_iret dX12_run_33 rfl rfl rfl ?_
      refine th_r ?_ hQ
      rw [th_runA, if_neg (fun z => u z.2.1)]
  · refine pm_if_eq (tgt := 31) dX12_run_9 (by decide) (fun c_9 => ?_) (fun c_9 => absurd (rfl) c_9)
    refine pm_bipush (v := (-102)) dX12_run_31 (by decide) ?_
    refine pm_iret dX12_run_33 rfl rfl rfl ?_
    refine th_r ?_ hQ
    rw [th_runA, if_neg (fun z => u z.1)]

set_option maxHeartbeats 600000 in
set_option maxRecDepth 100000 in
theorem c_X11_run {l : Launch} {G : pm_G} {ad : Nat → Nat → Nat} {S : Nat → Nat} {A : Nat → Nat → Int32} {X : Nat → Int32} {Y : Nat → Nat → Int32} {F : Nat → Int64} {Hd Cs : Nat → Option Nat} {m : List pm_A} {Q : pm_T} {x y p : Int32} (hQ : Q ad (some (.int (th_runA x y p))) (th_cw ad S A X Y F Hd Cs m)) : pm_C l G m_X11_run [.ref (ad 0 0), .int x, .int y, .int p] ad (th_cw ad S A X Y F Hd Cs m) Q := by
  refine pm_met (by decide) (Nat.le_of_ble_eq_true rfl) ?_
  refine pm_iload_n dX11_run_0 rfl rfl ?_
  refine pm_iconst (v := 1) dX11_run_1 (by decide) ?_
  refine pm_bipush (v := 9) dX11_run_2 (by decide) ?_
  refine pm_callS (M2 := m_X11_isOutside) (As := [_, _, _]) ok_X11_isOutside kw_361 kw_362 dX11_run_4 rfl rfl (Nat.le_of_ble_eq_true rfl) ⟨⟨Nat.le_of_ble_eq_true rfl, Nat.le_of_ble_eq_true rfl⟩, Nat.le_of_ble_eq_true rfl, Nat.le_of_ble_eq_true rfl⟩ ?_
  refine c_X11_isOutside (fun u => ?_) (fun u v => ?_)
  · refine pm_if_ne (tgt := 29) dX11_run_7 (by decide) (fun c_7 => ?_) (fun c_7 => absurd c_7 (by decide))
    refine pm_bipush (v := (-102)) dX11_run_29 (by decide) ?_
    refine pm_iret dX11_run_31 rfl rfl rfl ?_
    refine th_r ?_ hQ
    rw [th_runA, if_neg (fun z => u z.1)]
  · obtain ⟨w, hw, rfl⟩ := th_03 (Int32.le_trans (show (0 : Int32) ≤ 1 by decide) u) (n := 9) (by decide) v
    refine pm_if_ne (tgt := 29) dX11_run_7 (by decide) (fun c_7 => absurd (rfl) c_7) (fun c_7 => ?_)
    refine pm_iload_n dX11_run_10 rfl rfl ?_
    refine pm_iconst (v := 0) dX11_run_11 (by decide) ?_
    refine pm_bipush (v := 10) dX11_run_12 (by decide) ?_
    refine pm_callS (M2 := m_X11_isOutside) (As := [_, _, _]) ok_X11_isOutside kw_361 kw_362 dX11_run_14 rfl rfl (Nat.le_of_ble_eq_true rfl) ⟨⟨Nat.le_of_ble_eq_true rfl, Nat.le_of_ble_eq_true rfl⟩, Nat.le_of_ble_eq_true rfl, Nat.le_of_ble_eq_true rfl⟩ ?_
    refine c_X11_isOutside (fun u => ?_) (fun u2 v2 => ?_)
    · refine pm_if_ne (tgt := 29) dX11_run_17 (by decide) (fun c_17 => ?_) (fun c_17 => absurd c_17 (by decide))
      refine pm_bipush (v := (-102)) dX11_run_29 (by decide) ?_
      refine pm_iret dX11_run_31 rfl rfl rfl ?_
      refine th_r ?_ hQ
      rw [th_runA, if_neg (fun z => u z.2.1)]
    · obtain ⟨t, ht, rfl⟩ := th_03 u2 (n := 10) (by decide) v2
      have hb1 := th_pwb ht hw
      have hb2 := th_pwb (Nat.le_refl 10) hw
      refine pm_if_ne (tgt := 29) dX11_run_17 (by decide) (fun c_17 => absurd (rfl) c_17) (fun c_17 => ?_)
      refine pm_iload_n dX11_run_20 rfl rfl ?_
      refine pm_iconst (v := 0) dX11_run_21 (by decide) ?_
      refine pm_iconst (v := 1) dX11_run_22 (by decide) ?_
      refine pm_callS (M2 := m_X11_isOutside) (As := [_, _, _]) ok_X11_isOutside kw_361 kw_362 dX11_run_23 rfl rfl (Nat.le_of_ble_eq_true rfl) ⟨⟨Nat.le_of_ble_eq_true rfl, Nat.le_of_ble_eq_true rfl⟩, Nat.le_of_ble_eq_true rfl, Nat.le_of_ble_eq_true rfl⟩ ?_
      refine c_X11_isOutside (fun u => ?_) (fun u3 v3 => ?_)
      · refine pm_if_eq (tgt := 32) dX11_run_26 (by decide) (fun c_26 => absurd c_26 (by decide)) (fun c_26 => ?_)
        refine pm_bipush (v := (-102)) dX11_run_29 (by decide) ?_
        refine pm_iret dX11_run_31 rfl rfl rfl ?_
        refine th_r ?_ hQ
        rw [th_runA, if_neg (fun z => u z.2.2)]
      · refine pm_if_eq (tgt := 32) dX11_run_26 (by decide) (fun c_26 => ?_) (fun c_26 => absurd (rfl) c_26)
        refine pm_iload_n dX11_run_32 rfl rfl ?_
        refine pm_i2l dX11_run_33 ?_
        refine pm_iload_n dX11_run_34 rfl rfl ?_
        rw [nI_l (by omega)]
        refine pm_callS (M2 := m_X11_power) (As := [_, _]) ok_X11_power kw_831 kw_775 dX11_run_35 rfl rfl (Nat.le_of_ble_eq_true rfl) ⟨⟨Nat.le_of_ble_eq_true rfl, Nat.le_of_ble_eq_true rfl⟩, Nat.le_of_ble_eq_true rfl, Nat.le_of_ble_eq_true rfl⟩ ?_
        refine c_X11_power (by omega) ?_
        rw [th_pwN]
        refine pm_ldc2 kw_830 dX11_run_38 ?_
        refine pm_iload_n dX11_run_41 rfl rfl ?_
        refine pm_callS (M2 := m_X11_power) (As := [_, _]) ok_X11_power kw_831 kw_775 dX11_run_42 rfl rfl (Nat.le_of_ble_eq_true rfl) ⟨⟨Nat.le_of_ble_eq_true rfl, Nat.le_of_ble_eq_true rfl⟩, Nat.le_of_ble_eq_true rfl, Nat.le_of_ble_eq_true rfl⟩ ?_
        refine c_X11_power (b := lN 10) (by omega) ?_
        rw [th_pwN]
        refine pm_iload_n dX11_run_45 rfl rfl ?_
        refine pm_callS (M2 := m_X11_inLowestTerms) (As := [_, _, _]) ok_X11_inLowestTerms kw_832 kw_787 dX11_run_46 rfl rfl (Nat.le_of_ble_eq_true rfl) ⟨⟨Nat.le_of_ble_eq_true rfl, Nat.le_of_ble_eq_true rfl⟩, Nat.le_of_ble_eq_true rfl, Nat.le_of_ble_eq_true rfl⟩ ?_
        refine c_X11_inLowestTerms (by omega) (by omega) (Nat.pow_pos (by decide)) ?_
        refine pm_l2i dX11_run_49 ?_
        refine pm_iret dX11_run_50 rfl rfl rfl ?_
        have hcd : (1 ≤ nI w ∧ nI w ≤ 9) ∧ (0 ≤ nI t ∧ nI t ≤ 10) ∧ (0 ≤ p ∧ p ≤ 1) := ⟨⟨u, v⟩, ⟨u2, v2⟩, u3, v3⟩
        refine th_r ?_ hQ
        rw [th_runA, if_pos hcd, th_n_nI (show w < 2 ^ 31 by omega), th_n_nI (show t < 2 ^ 31 by omega)]

