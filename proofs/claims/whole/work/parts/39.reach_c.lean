set_option maxHeartbeats 600000 in
set_option maxRecDepth 100000 in
theorem e_X9_gather {l : Launch} {G : pm_G} {ad : Nat → Nat → Nat} {S : Nat → Nat} {A : Nat → Nat → Int32} {X : Nat → Int32} {Y : Nat → Nat → Int32} {F : Nat → Int64} {Hd Cs : Nat → Option Nat} {m : List pm_A} {Q : pm_T} {a z : Nat} (h8 : S 11 ≤ 8) (ha : a < S 11) (hz : z < 2 ^ S 11) (hb : rs_N z ≤ 5) {i : Nat} (hN : (rh_c z.testBit i) = rs_N z) (hH : (∀ k, k < (rh_c z.testBit i) → Hd k = some (ad 2 (rs_g a z (k + 1))))) (hQ : ∀ Hd2, (∀ h, h ≤ rs_N z → Hd2 h = some (ad 2 (rs_g a z (rs_s (rs_N z) h)))) → Q ad none (rs_cz ad S A X Y F Hd2 Cs m (nI (rs_N z)))) : pm_W l G m_X9_gather ad 61 [(4, .int (nI i)), (0, .ref (ad 5 0)), (1, .ref (ad 0 2)), (2, .int (nI z)), (3, .ref (ad 2 a))] [] (rs_cz ad S A X Y F Hd Cs m (nI (rh_c z.testBit i))) 0 0 Q := by
  refine pm_aload_n dX9_gather_61 rfl rfl ?_
  refine pm_get fl_RX9_11_9 dX9_gather_62 rfl rfl ?_
  refine pm_aload_n dX9_gather_65 rfl rfl ?_
  refine pm_get fl_RX9_21_9 dX9_gather_66 rfl rfl ?_
  refine pm_aload_n dX9_gather_69 rfl rfl ?_
  refine pm_aastN (w2 := (_, _, _, _, _, [_, _, _], _, _, _)) (kcl _) (kca _) dX9_gather_70 rfl (show pm_get? _ 2 a = _ from th_nt_get ha) (th_in (show (rh_c z.testBit i) < 6 by omega) (by decide)) rfl ?_
  refine pm_vret dX9_gather_71 rfl rfl rfl ?_
  rw [th_cl (show (rh_c z.testBit i) < 2 ^ 31 by omega)]
  have hq := hQ (va_up Hd (rh_c z.testBit i) (some (ad 2 a))) (fun h hh => ?_)
  · rw [← hN] at hq
    exact hq
  · by_cases e : h = (rh_c z.testBit i)
    · show (if h = (rh_c z.testBit i) then _ else _) = _
      rw [if_pos e, e, hN, rs_sN]
      rfl
    · show (if h = (rh_c z.testBit i) then _ else _) = _
      rw [if_neg e, rs_sl (by omega)]
      exact hH h (by omega)

set_option maxHeartbeats 600000 in
set_option maxRecDepth 100000 in
theorem b_X9_gather {l : Launch} {G : pm_G} {ad : Nat → Nat → Nat} {S : Nat → Nat} {A : Nat → Nat → Int32} {X : Nat → Int32} {Y : Nat → Nat → Int32} {F : Nat → Int64} {Hd Cs : Nat → Option Nat} {m : List pm_A} {Q : pm_T} {a z : Nat} (h8 : S 11 ≤ 8) (ha : a < S 11) (hz : z < 2 ^ S 11) (hb : rs_N z ≤ 5) {i : Nat} (hi : i ≤ 8) (hH : (∀ k, k < (rh_c z.testBit i) → Hd k = some (ad 2 (rs_g a z (k + 1))))) (hQ : ∀ Hd2, (∀ h, h ≤ rs_N z → Hd2 h = some (ad 2 (rs_g a z (rs_s (rs_N z) h)))) → Q ad none (rs_cz ad S A X Y F Hd2 Cs m (nI (rs_N z)))) (K : i < 8 → ∀ Hd2, (∀ k, k < (rh_c z.testBit (i + 1)) → Hd2 k = some (ad 2 (rs_g a z (k + 1)))) → pm_W l G m_X9_gather ad 8 [(4, .int (nI (i + 1))), (0, .ref (ad 5 0)), (1, .ref (ad 0 2)), (2, .int (nI z)), (3, .ref (ad 2 a))] [] (rs_cz ad S A X Y F Hd2 Cs m (nI (rh_c z.testBit (i + 1)))) 0 0 Q) : pm_W l G m_X9_gather ad 8 [(4, .int (nI i)), (0, .ref (ad 5 0)), (1, .ref (ad 0 2)), (2, .int (nI z)), (3, .ref (ad 2 a))] [] (rs_cz ad S A X Y F Hd Cs m (nI (rh_c z.testBit i))) 0 0 Q := by
  have hp2 := th_isp (n := 0) (show S 11 ≤ 10 by omega)
  have hmo := rh_cmono z.testBit (i := i) (8 - i)
  rw [show i + (8 - i) = 8 from by omega] at hmo
  have hmo2 : (rh_c z.testBit i) ≤ rs_N z := hmo
  refine pm_iload dX9_gather_8 rfl ?_
  refine pm_aload_n dX9_gather_10 rfl rfl ?_
  refine pm_alen (by decide) dX9_gather_11 rfl ?_
  show pm_W _ _ _ _ _ _ (.int (nI 8) :: _) _ _ _ _
  refine pm_icmp_ge (tgt := 61) dX9_gather_12 (by decide) (fun c_12 => ?_) (fun c_12 => ?_)
  · refine pm_pick [0, 1, 2, 3, 4] rfl ?_
    have e : i = 8 := by
      have := (nI_leI (by decide) (by omega)).mp c_12
      omega
    subst e
    refine e_X9_gather h8 ha hz hb rfl hH hQ
  · have hi8 : i < 8 := Nat.lt_of_not_le (fun q => c_12 ((nI_leI (by decide) (by omega)).mpr q))
    refine pm_aload_n dX9_gather_15 rfl rfl ?_
    refine pm_get fl_RX9_21_9 dX9_gather_16 rfl rfl ?_
    refine pm_iconst (v := 5) dX9_gather_19 (by decide) ?_
    refine pm_icmp_ge (tgt := 61) dX9_gather_20 (by decide) (fun c_20 => ?_) (fun c_20 => ?_)
    · refine pm_pick [0, 1, 2, 3, 4] rfl ?_
      have h5 := (nI_leI (a := 5) (by decide) (by omega)).mp c_20
      refine e_X9_gather h8 ha hz hb (by omega) hH hQ
    · have h5 : (rh_c z.testBit i) < 5 := Nat.lt_of_not_le (fun q => c_20 ((nI_leI (a := 5) (by decide) (by omega)).mpr q))
      refine pm_iload_n dX9_gather_23 rfl rfl ?_
      refine pm_iload dX9_gather_24 rfl ?_
      refine pm_ishr dX9_gather_26 ?_
      refine pm_iconst (v := 1) dX9_gather_27 (by decide) ?_
      refine pm_iand dX9_gather_28 ?_
      rw [th_bit (by omega) (by omega)]
      refine pm_if_eq (tgt := 55) dX9_gather_29 (by decide) (fun c_29 => ?_) (fun c_29 => ?_)
      · refine pm_iinc (lv2 := [(4, _), (0, _), (1, _), (2, _), (3, _)]) dX9_gather_55 rfl (nI_1 i) (Nat.le_of_ble_eq_true rfl) rfl ?_
        refine pm_goto (tgt := 8) dX9_gather_58 (by decide) ?_
        refine pm_pick [0, 1, 2, 3, 4] rfl ?_
        have e : (rh_c z.testBit (i + 1)) = (rh_c z.testBit i) := by
          show (rh_c z.testBit i) + (if z.testBit i = true then 1 else 0) = _
          rw [rs_b0 c_29]
          rfl
        have kk := K hi8 Hd (by rw [e]; exact hH)
        rw [e] at kk
        exact kk
      · have hbt := rs_b1 c_29
        have hlt : i < S 11 := by
          cases Nat.lt_or_ge i (S 11) with
          | inl q => exact q
          | inr q => rw [rs_hi hz q] at hbt; exact absurd hbt (by decide)
        have e : (rh_c z.testBit (i + 1)) = (rh_c z.testBit i) + 1 := by
          show (rh_c z.testBit i) + (if z.testBit i = true then 1 else 0) = _
          rw [if_pos hbt]
        have hpk : rs_g a z ((rh_c z.testBit i) + 1) = i := rh_pke hbt rfl 8 hi8
        refine pm_aload_n dX9_gather_32 rfl rfl ?_
        refine pm_get fl_RX9_11_9 dX9_gather_33 rfl rfl ?_
        refine pm_aload_n dX9_gather_36 rfl rfl ?_
        refine pm_get fl_RX9_21_9 dX9_gather_37 rfl rfl ?_
        refine pm_aload_n dX9_gather_40 rfl rfl ?_
        refine pm_iload dX9_gather_41 rfl ?_
        refine pm_aaldN dX9_gather_43 rfl (th_in hi8 (by decide)) ?_
        rw [th_cl (by omega)]
        unfold th_rs
        rw [if_pos hlt]
        show pm_W _ _ _ _ _ _ (.ref (ad 2 i) :: _) _ _ _ _
        refine pm_aastN (w2 := (_, _, _, _, _, [_, _, _], _, _, _)) (kcl _) (kca _) dX9_gather_44 rfl (show pm_get? _ 2 i = _ from th_nt_get hlt) (th_in (show (rh_c z.testBit i) < 6 by omega) (by decide)) rfl ?_
        refine pm_aload_n dX9_gather_45 rfl rfl ?_
        refine pm_dup dX9_gather_46 rfl ?_
        refine pm_get fl_RX9_21_9 dX9_gather_47 rfl rfl ?_
        refine pm_iconst (v := 1) dX9_gather_50 (by decide) ?_
        refine pm_iadd dX9_gather_51 ?_
        rw [nI_1]
        refine pm_put (w2 := (_, _, _, _, _, [.inr (_, [_, _, _]), _, _], _, _, _)) fl_RX9_21_9 fp_9_2 dX9_gather_52 rfl rfl rfl (Nat.le_of_ble_eq_true rfl) rfl ?_
        refine pm_iinc (lv2 := [(4, _), (0, _), (1, _), (2, _), (3, _)]) dX9_gather_55 rfl (nI_1 i) (Nat.le_of_ble_eq_true rfl) rfl ?_
        refine pm_goto (tgt := 8) dX9_gather_58 (by decide) ?_
        refine pm_pick [0, 1, 2, 3, 4] rfl ?_
        rw [th_cl (show (rh_c z.testBit i) < 2 ^ 31 by omega)]
        have kk := K hi8 (va_up Hd (rh_c z.testBit i) (some (ad 2 i))) (fun k hk => by
          show (if k = (rh_c z.testBit i) then _ else _) = _
          by_cases ek : k = (rh_c z.testBit i)
          · rw [if_pos ek, ek, hpk]
          · rw [if_neg ek]
            exact hH k (by omega))
        rw [e] at kk
        exact kk

set_option maxHeartbeats 600000 in
set_option maxRecDepth 100000 in
theorem c_X9_gather {l : Launch} {G : pm_G} {ad : Nat → Nat → Nat} {S : Nat → Nat} {A : Nat → Nat → Int32} {X : Nat → Int32} {Y : Nat → Nat → Int32} {F : Nat → Int64} {Hd Cs : Nat → Option Nat} {m : List pm_A} {Q : pm_T} {a z : Nat} (h8 : S 11 ≤ 8) (ha : a < S 11) (hz : z < 2 ^ S 11) (hb : rs_N z ≤ 5) (hQ : ∀ Hd2, (∀ h, h ≤ rs_N z → Hd2 h = some (ad 2 (rs_g a z (rs_s (rs_N z) h)))) → Q ad none (rs_cz ad S A X Y F Hd2 Cs m (nI (rs_N z)))) : pm_C l G m_X9_gather [.ref (ad 5 0), .ref (ad 0 2), .int (nI z), .ref (ad 2 a)] ad (th_cw ad S A X Y F Hd Cs m) Q := by
  refine pm_met (by decide) (Nat.le_of_ble_eq_true rfl) ?_
  refine pm_aload_n dX9_gather_0 rfl rfl ?_
  refine pm_iconst (v := 0) dX9_gather_1 (by decide) ?_
  refine pm_put (w2 := (_, _, _, _, _, [.inr (_, [_, _, _]), _, _], _, _, _)) fl_RX9_21_9 fp_9_2 dX9_gather_2 rfl rfl rfl (Nat.le_of_ble_eq_true rfl) rfl ?_
  refine pm_iconst (v := 0) dX9_gather_5 (by decide) ?_
  refine pm_istore (lv2 := [(4, _), (0, _), (1, _), (2, _), (3, _)]) dX9_gather_6 (Nat.le_of_ble_eq_true rfl) rfl ?_
  refine pm_pick [0, 1, 2, 3, 4] rfl ?_
  suffices H : ∀ i, i ≤ 8 → ∀ Hd, (∀ k, k < (rh_c z.testBit i) → Hd k = some (ad 2 (rs_g a z (k + 1)))) → pm_W l G m_X9_gather ad 8 [(4, .int (nI i)), (0, .ref (ad 5 0)), (1, .ref (ad 0 2)), (2, .int (nI z)), (3, .ref (ad 2 a))] [] (rs_cz ad S A X Y F Hd Cs m (nI (rh_c z.testBit i))) 0 0 Q from H 0 (Nat.zero_le _) Hd (fun k hk => absurd hk (Nat.not_lt_zero k))
  refine th_loop _ ?_
  intro i hi K Hd hH
  exact b_X9_gather h8 ha hz hb hi hH hQ K

theorem rs_i1 : ∀ s, s < 32 → ∀ l, l < 5 → nI s &&& (((1 : Int32) <<< (nI l &&& 31)) ^^^ (-1)) = nI (s &&& (31 ^^^ 2 ^ l)) := by decide +kernel
theorem rs_i2 : ∀ p, p < 32 → ∀ r, r < 32 → nI p &&& (nI r ^^^ (-1)) = nI (p &&& (31 ^^^ r)) := by decide +kernel
theorem rs_sub {x : Nat} (hx : x < 32) (p b : Nat) : (x &&& (31 ^^^ p)).testBit b = (x.testBit b && !p.testBit b) := by
  rw [Nat.testBit_and, Nat.testBit_xor, show (31 : Nat) = 2 ^ 5 - 1 from by decide, Nat.testBit_two_pow_sub_one]
  by_cases h : b < 5
  · simp [h]
  · rw [rs_hi (n := 5) hx (by omega)]; rfl
def rs_re (s l : Nat) : Nat := s &&& (31 ^^^ 2 ^ l)
theorem rs_reb {s : Nat} (hs : s < 32) (l b : Nat) : (rs_re s l).testBit b = (s.testBit b && !decide (l = b)) := by
  unfold rs_re
  rw [rs_sub hs, Nat.testBit_two_pow]
theorem rs_rel {s : Nat} (l : Nat) : rs_re s l ≤ s := Nat.and_le_left
theorem rs_inc {x s : Nat} (h : ∀ b, x.testBit b = true → s.testBit b = true) : x ≤ s := by
  have e : x &&& s = x := by
    refine Nat.eq_of_testBit_eq (fun b => ?_)
    rw [Nat.testBit_and]
    cases hx : x.testBit b
    · rfl
    · rw [h b hx]; rfl
  rw [← e]
  exact Nat.and_le_right
theorem rs_inl {x s l : Nat} (h : ∀ b, x.testBit b = true → s.testBit b = true) (hs : s.testBit l = true) (hx : x.testBit l = false) : x < s := by
  refine Nat.lt_of_le_of_ne (rs_inc h) (fun e => ?_)
  subst e
  rw [hs] at hx
  exact absurd hx (by decide)
theorem rs_3i {s l p : Nat} (hs : s < 32) (hp32 : p < 32) (hl : s.testBit l = true) (hp : p &&& (31 ^^^ rs_re s l) = 0) : rh_3 l p (rs_re s l &&& (31 ^^^ p)) s := by
  have hr : rs_re s l < 32 := Nat.lt_of_le_of_lt (rs_rel l) hs
  intro b
  have hpb : (p.testBit b && !(rs_re s l).testBit b) = false := by rw [← rs_sub hp32, hp, Nat.zero_testBit]
  rw [rs_reb hs] at hpb
  rw [rs_sub hr, rs_reb hs]
  by_cases e : b = l
  · subst e
    rw [hl] at hpb ⊢
    refine ⟨fun _ => ?_, fun q => absurd rfl q⟩
    revert hpb
    cases p.testBit b <;> simp
  · refine ⟨fun q => absurd q e, fun _ => ?_⟩
    have e2 : ¬ l = b := fun q => e q.symm
    revert hpb
    cases p.testBit b <;> cases s.testBit b <;> simp [e2]
theorem rs_3s {s l p r : Nat} (h : rh_3 l p r s) : s.testBit l = true ∧ r.testBit l = false ∧ p.testBit l = false ∧ (∀ b, p.testBit b = true → s.testBit b = true) ∧ ∀ b, r.testBit b = true → s.testBit b = true := by
  have h1 := (h l).1 rfl
  refine ⟨h1.1, h1.2.1, h1.2.2, fun b hb => ?_, fun b hb => ?_⟩
  · by_cases e : b = l
    · rw [e]; exact h1.1
    · exact ((h b).2 e).1.mpr (Or.inr hb)
  · by_cases e : b = l
    · rw [e]; exact h1.1
    · exact ((h b).2 e).1.mpr (Or.inl hb)
theorem rs_3e {s l p r : Nat} (hs : s < 32) (h : rh_3 l p r s) : p &&& (31 ^^^ rs_re s l) = 0 ∧ r = rs_re s l &&& (31 ^^^ p) ∧ p ≤ rs_re s l := by
  obtain ⟨h1, h2, h3, h4, h5⟩ := rs_3s h
  have hp32 : p < 32 := Nat.lt_of_le_of_lt (rs_inc h4) hs
  have hr : rs_re s l < 32 := Nat.lt_of_le_of_lt (rs_rel l) hs
  have hin : ∀ b, p.testBit b = true → (rs_re s l).testBit b = true := by
    intro b hb
    rw [rs_reb hs, h4 b hb]
    have e : ¬ l = b := fun q => by subst q; rw [h3] at hb; exact absurd hb (by decide)
    simp [e]
  refine ⟨?_, ?_, rs_inc hin⟩
  · refine Nat.eq_of_testBit_eq (fun b => ?_)
    rw [rs_sub hp32, Nat.zero_testBit]
    cases hb : p.testBit b
    · rfl
    · rw [hin b hb]; rfl
  · refine Nat.eq_of_testBit_eq (fun b => ?_)
    rw [rs_sub hr, rs_reb hs]
    by_cases e : b = l
    · subst e; rw [h2]; simp
    · have hh := (h b).2 e
      have e2 : ¬ l = b := fun q => e q.symm
      revert hh
      cases r.testBit b <;> cases p.testBit b <;> cases s.testBit b <;> simp [e2]
/-- the table's cell holds what it should -/
def rs_tab (S : Nat → Nat) (A : Nat → Nat → Int32) (a z : Nat) (F : Nat → Int64) (h s : Nat) : Prop := ∃ M, M < 2 ^ 63 ∧ F (h * 32 + s) = lN M ∧ ∀ v, M.testBit v = true ↔ rh_T (rs_N z) (rs_c A a z) (rs_q S A a z) (rs_s (rs_N z) h) s v
/-- the counts over those that have been tried as the last -/
def rs_E (S : Nat → Nat) (A : Nat → Nat → Int32) (a z h s l p v : Nat) : Prop := ∃ l2 p2 r x y, (l2 < l ∨ (l2 = l ∧ p2 < p)) ∧ l2 < rs_N z ∧ rh_3 l2 p2 r s ∧ rh_T (rs_N z) (rs_c A a z) (rs_q S A a z) (rs_s (rs_N z) h) r x ∧ rh_T (rs_N z) (rs_c A a z) (rs_q S A a z) (l2 + 1) p2 y ∧ v = rs_q S A a z (rs_s (rs_N z) h) (l2 + 1) x y
theorem rs_Eskip {S : Nat → Nat} {A : Nat → Nat → Int32} {a z h s l p v : Nat} (hn : ∀ p2 r, p ≤ p2 → ¬ rh_3 l p2 r s) : rs_E S A a z h s (l + 1) 0 v ↔ rs_E S A a z h s l p v := by
  constructor
  · rintro ⟨l2, p2, r, x, y, h1, h2, h3, h4⟩
    refine ⟨l2, p2, r, x, y, ?_, h2, h3, h4⟩
    by_cases e : l2 = l
    · subst e
      refine Or.inr ⟨rfl, ?_⟩
      cases Nat.lt_or_ge p2 p with
      | inl q => exact q
      | inr q => exact absurd h3 (hn p2 r q)
    · exact Or.inl (by omega)
  · rintro ⟨l2, p2, r, x, y, h1, h2, h3, h4⟩
    exact ⟨l2, p2, r, x, y, Or.inl (by omega), h2, h3, h4⟩
theorem rs_Enone {S : Nat → Nat} {A : Nat → Nat → Int32} {a z h s l p v : Nat} (hn : ∀ r, ¬ rh_3 l p r s) : rs_E S A a z h s l (p + 1) v ↔ rs_E S A a z h s l p v := by
  constructor
  · rintro ⟨l2, p2, r, x, y, h1, h2, h3, h4⟩
    refine ⟨l2, p2, r, x, y, ?_, h2, h3, h4⟩
    rcases h1 with h1 | ⟨e, h1⟩
    · exact Or.inl h1
    · refine Or.inr ⟨e, ?_⟩
      by_cases e2 : p2 = p
      · subst e; subst e2; exact absurd h3 (hn r)
      · omega
  · rintro ⟨l2, p2, r, x, y, h1, h2, h3, h4⟩
    exact ⟨l2, p2, r, x, y, h1.elim Or.inl (fun q => Or.inr ⟨q.1, by omega⟩), h2, h3, h4⟩
theorem rs_Eone {S : Nat → Nat} {A : Nat → Nat → Int32} {a z h s l p r v : Nat} (hs : s < 32) (hl : l < rs_N z) (h3 : rh_3 l p r s) : rs_E S A a z h s l (p + 1) v ↔ (rs_E S A a z h s l p v ∨ ∃ x y, rh_T (rs_N z) (rs_c A a z) (rs_q S A a z) (rs_s (rs_N z) h) r x ∧ rh_T (rs_N z) (rs_c A a z) (rs_q S A a z) (l + 1) p y ∧ v = rs_q S A a z (rs_s (rs_N z) h) (l + 1) x y) := by
  constructor
  · rintro ⟨l2, p2, r2, x, y, h1, h2, h4, h5⟩
    rcases h1 with h1 | ⟨e, h1⟩
    · exact Or.inl ⟨l2, p2, r2, x, y, Or.inl h1, h2, h4, h5⟩
    · by_cases e2 : p2 = p
      · subst e; subst e2
        rw [(rs_3e hs h4).2.1, ← (rs_3e hs h3).2.1] at h5
        exact Or.inr ⟨x, y, h5⟩
      · exact Or.inl ⟨l2, p2, r2, x, y, Or.inr ⟨e, by omega⟩, h2, h4, h5⟩
  · rintro (⟨l2, p2, r2, x, y, h1, h2, h4⟩ | ⟨x, y, h5⟩)
    · exact ⟨l2, p2, r2, x, y, h1.elim Or.inl (fun q => Or.inr ⟨q.1, by omega⟩), h2, h4⟩
    · exact ⟨l, p, r, x, y, Or.inr ⟨rfl, by omega⟩, hl, h3, h5⟩
theorem rs_EN {S : Nat → Nat} {A : Nat → Nat → Int32} {a z h s v : Nat} (hs : ¬ s = 0) : rs_E S A a z h s (rs_N z) 0 v ↔ rh_T (rs_N z) (rs_c A a z) (rs_q S A a z) (rs_s (rs_N z) h) s v := by
  rw [rh_Tun]
  constructor
  · rintro ⟨l2, p2, r, x, y, h1, h2, h3, h4, h5, h6⟩
    exact Or.inr ⟨l2, p2, r, x, y, h2, h3, h4, h5, h6⟩
  · rintro (q | ⟨l2, p2, r, x, y, h2, h3, h4, h5, h6⟩)
    · exact absurd q.1 hs
    · exact ⟨l2, p2, r, x, y, Or.inl h2, h2, h3, h4, h5, h6⟩
theorem rs_T0 {S : Nat → Nat} {A : Nat → Nat → Int32} {a z i v : Nat} : rh_T (rs_N z) (rs_c A a z) (rs_q S A a z) i 0 v ↔ v = rs_c A a z i := by
  rw [rh_Tun]
  constructor
  · rintro (q | ⟨l2, p2, r, x, y, h2, h3, h4⟩)
    · exact q.2
    · exact absurd (rs_3s h3).1 (by simp)
  · exact fun q => Or.inl ⟨rfl, q⟩
theorem rs_re0 {s l : Nat} (hs : s < 32) (e : rs_re s l = s) : s.testBit l = false := by
  have := rs_reb hs l l
  rw [e] at this
  rw [this]
  simp
set_option maxHeartbeats 600000 in
set_option maxRecDepth 100000 in
theorem b_X9_co28 {l : Launch} {G : pm_G} {ad : Nat → Nat → Nat} {S : Nat → Nat} {A : Nat → Nat → Int32} {X : Nat → Int32} {Y : Nat → Nat → Int32} {F : Nat → Int64} {Hd Cs : Nat → Option Nat} {m : List pm_A} {Q : pm_T} {a z h s : Nat} (hI : th_I S A) (ha : a < S 11) (hz : z < 2 ^ S 11) (hb : rs_N z ≤ 5) (hH : (∀ h, h ≤ rs_N z → Hd h = some (ad 2 (rs_g a z (rs_s (rs_N z) h))))) (hh : h ≤ rs_N z) (hs : s < 2 ^ rs_N z) (hs0 : s.testBit h = false) (hT : ∀ s2 h2, h2 ≤ rs_N z → s2.testBit h2 = false → s2 < s → rs_tab S A a z F h2 s2) {p L C : Nat} (hl : L < rs_N z) (hp : p ≤ 32) (hC : C < 2 ^ 63) (hE : ∀ v, C.testBit v = true ↔ rs_E S A a z h s L p v) (K6 : ∀ C2, C2 < 2 ^ 63 → (∀ v, C2.testBit v = true ↔ rs_E S A a z h s (L + 1) 0 v) → pm_W l G m_X9_countsOver ad 6 [(6, .int (nI (L + 1))), (4, .long (lN C2)), (0, .ref (ad 5 0)), (1, .int (nI h)), (2, .int (nI s)), (3, .int (nI (S 6)))] [] (rs_cz ad S A X Y F Hd Cs m (nI (rs_N z))) 0 0 Q) (K : p < 32 → ∀ C2, C2 < 2 ^ 63 → (∀ v, C2.testBit v = true ↔ rs_E S A a z h s L (p + 1) v) → pm_W l G m_X9_countsOver ad 28 [(8, .int (nI (p + 1))), (7, .int (nI (rs_re s L))), (6, .int (nI L)), (4, .long (lN C2)), (0, .ref (ad 5 0)), (1, .int (nI h)), (2, .int (nI s)), (3, .int (nI (S 6)))] [] (rs_cz ad S A X Y F Hd Cs m (nI (rs_N z))) 0 0 Q) : pm_W l G m_X9_countsOver ad 28 [(8, .int (nI p)), (7, .int (nI (rs_re s L))), (6, .int (nI L)), (4, .long (lN C)), (0, .ref (ad 5 0)), (1, .int (nI h)), (2, .int (nI s)), (3, .int (nI (S 6)))] [] (rs_cz ad S A X Y F Hd Cs m (nI (rs_N z))) 0 0 Q := by
  have hp5 : 2 ^ rs_N z ≤ 2 ^ 5 := Nat.pow_le_pow_right (by decide) hb
  have hs32 : s < 32 := by omega
  have hre := rs_rel (s := s) L
  have h8 := hI.2.2.2.2.1.1
  have hrp := @Nat.and_le_left (rs_re s L) (31 ^^^ p)
  refine pm_iload dX9_countsOver_28 rfl ?_
  refine pm_iload_n dX9_countsOver_30 rfl rfl ?_
  refine pm_icmp_eq (tgt := 117) dX9_countsOver_31 (by decide) (fun c_31 => ?_) (fun c_31 => ?_)
  · refine pm_iinc (lv2 := [(6, _), (8, _), (7, _), (4, _), (0, _), (1, _), (2, _), (3, _)]) dX9_countsOver_117 rfl (nI_1 L) (Nat.le_of_ble_eq_true rfl) rfl ?_
    refine pm_goto (tgt := 6) dX9_countsOver_120 (by decide) ?_
    refine pm_pick [0, 3, 4, 5, 6, 7] rfl ?_
    have e := rs_re0 hs32 ((nI_eq (by omega) (by omega)).mp c_31)
    refine K6 C hC (fun v => ?_)
    rw [hE, rs_Eskip (fun p2 r _ q => ?_)]
    have := (rs_3s q).1
    rw [e] at this
    exact absurd this (by decide)
  · refine pm_iload dX9_countsOver_34 rfl ?_
    refine pm_iload dX9_countsOver_36 rfl ?_
    refine pm_icmp_gt (tgt := 117) dX9_countsOver_38 (by decide) (fun c_38 => ?_) (fun c_38 => ?_)
    · refine pm_iinc (lv2 := [(6, _), (8, _), (7, _), (4, _), (0, _), (1, _), (2, _), (3, _)]) dX9_countsOver_117 rfl (nI_1 L) (Nat.le_of_ble_eq_true rfl) rfl ?_
      refine pm_goto (tgt := 6) dX9_countsOver_120 (by decide) ?_
      refine pm_pick [0, 3, 4, 5, 6, 7] rfl ?_
      have e := (nI_ltI (by omega) (by omega)).mp c_38
      refine K6 C hC (fun v => ?_)
      rw [hE, rs_Eskip (fun p2 r hp2 q => ?_)]
      have := (rs_3e hs32 q).2.2
      omega
    · have hpr : p ≤ rs_re s L := Nat.le_of_not_lt (fun q => c_38 ((nI_ltI (by omega) (by omega)).mpr q))
      refine pm_iload dX9_countsOver_41 rfl ?_
      refine pm_iload dX9_countsOver_43 rfl ?_
      refine pm_iconst (v := (-1)) dX9_countsOver_45 (by decide) ?_
      refine pm_ixor dX9_countsOver_46 ?_
      refine pm_iand dX9_countsOver_47 ?_
      rw [rs_i2 p (by omega) (rs_re s L) (by omega)]
      refine pm_if_ne (tgt := 111) dX9_countsOver_48 (by decide) (fun c_48 => ?_) (fun c_48 => ?_)
      · refine pm_iinc (lv2 := [(8, _), (7, _), (6, _), (4, _), (0, _), (1, _), (2, _), (3, _)]) dX9_countsOver_111 rfl (nI_1 p) (Nat.le_of_ble_eq_true rfl) rfl ?_
        refine pm_goto (tgt := 28) dX9_countsOver_114 (by decide) ?_
        refine pm_pick [0, 1, 2, 3, 4, 5, 6, 7] rfl ?_
        refine K (by omega) C hC (fun v => ?_)
        rw [hE, rs_Enone (fun r q => c_48 ?_)]
        rw [(rs_3e hs32 q).1]
        rfl
      · have hpl : p &&& (31 ^^^ rs_re s L) ≤ p := Nat.and_le_left
        have hp0 : p &&& (31 ^^^ rs_re s L) = 0 := (nI_eq (b := 0) (by omega) (by decide)).mp c_48
        have hsl : s.testBit L = true := by
          cases hq : s.testBit L
          · exact absurd (congrArg nI (Nat.eq_of_testBit_eq (fun b => by
              rw [rs_reb hs32]
              by_cases e : L = b
              · subst e; rw [hq]; rfl
              · simp [e]))) c_31
          · rfl
        have h3 := rs_3i hs32 (by omega) hsl hp0
        obtain ⟨t1, t2, t3, t4, t5⟩ := rs_3s h3
        have hrl := rs_inl t5 t1 t2
        have hpl2 := rs_inl t4 t1 t3
        have hrh : (rs_re s L &&& (31 ^^^ p)).testBit h = false := by
          cases hq : (rs_re s L &&& (31 ^^^ p)).testBit h
          · rfl
          · rw [t5 h hq] at hs0; exact absurd hs0 (by decide)
        obtain ⟨M1, m1, e1, f1⟩ := hT _ h hh hrh hrl
        obtain ⟨M2, m2, e2, f2⟩ := hT p L (by omega) t3 hpl2
        have gh := rs_gb (S := S) (a := a) (j := rs_s (rs_N z) h) ha hz (rs_sle hh)
        have gl := rs_gb (S := S) (a := a) (j := rs_s (rs_N z) L) ha hz (rs_sle (by omega))
        refine pm_aload_n dX9_countsOver_51 rfl rfl ?_
        refine pm_get fl_RX9_17_9 dX9_countsOver_52 rfl rfl ?_
        refine pm_iload_n dX9_countsOver_55 rfl rfl ?_
        refine pm_bipush (v := 32) dX9_countsOver_56 (by decide) ?_
        refine pm_imul dX9_countsOver_58 ?_
        refine pm_iload dX9_countsOver_59 rfl ?_
        refine pm_iload dX9_countsOver_61 rfl ?_
        refine pm_iconst (v := (-1)) dX9_countsOver_63 (by decide) ?_
        refine pm_ixor dX9_countsOver_64 ?_
        refine pm_iand dX9_countsOver_65 ?_
        refine pm_iadd dX9_countsOver_66 ?_
        rw [rs_i2 (rs_re s L) (by omega) p (by omega), show (32 : Int32) = nI 32 from rfl, pk_mul, nI_add]
        refine pm_lald dX9_countsOver_67 rfl (th_in (show _ < 192 by omega) (by decide)) ?_
        rw [th_cl (by omega), e1]
        refine pm_lstore (lv2 := [(9, _), (8, _), (7, _), (6, _), (4, _), (0, _), (1, _), (2, _), (3, _)]) dX9_countsOver_68 (Nat.le_of_ble_eq_true rfl) rfl ?_
        refine pm_aload_n dX9_countsOver_70 rfl rfl ?_
        refine pm_get fl_RX9_17_9 dX9_countsOver_71 rfl rfl ?_
        refine pm_iload dX9_countsOver_74 rfl ?_
        refine pm_bipush (v := 32) dX9_countsOver_76 (by decide) ?_
        refine pm_imul dX9_countsOver_78 ?_
        refine pm_iload dX9_countsOver_79 rfl ?_
        refine pm_iadd dX9_countsOver_81 ?_
        rw [show (32 : Int32) = nI 32 from rfl, pk_mul, nI_add]
        refine pm_lald dX9_countsOver_82 rfl (th_in (show _ < 192 by omega) (by decide)) ?_
        rw [th_cl (by omega), e2]
        refine pm_lstore (lv2 := [(11, _), (9, _), (8, _), (7, _), (6, _), (4, _), (0, _), (1, _), (2, _), (3, _)]) dX9_countsOver_83 (Nat.le_of_ble_eq_true rfl) rfl ?_
        refine pm_lload dX9_countsOver_85 rfl ?_
        refine pm_aload_n dX9_countsOver_87 rfl rfl ?_
        refine pm_get fl_RX9_11_9 dX9_countsOver_88 rfl rfl ?_
        refine pm_iload_n dX9_countsOver_91 rfl rfl ?_
        refine pm_aaldN dX9_countsOver_92 rfl (th_in (show h < 6 by omega) (by decide)) ?_
        rw [th_cl (by omega), hH h (by omega)]
        show pm_W _ _ _ _ _ _ (.ref (ad 2 (rs_g a z (rs_s (rs_N z) h))) :: _) _ _ _ _
        refine pm_aload_n dX9_countsOver_93 rfl rfl ?_
        refine pm_get fl_RX9_11_9 dX9_countsOver_94 rfl rfl ?_
        refine pm_iload dX9_countsOver_97 rfl ?_
        refine pm_aaldN dX9_countsOver_99 rfl (th_in (show L < 6 by omega) (by decide)) ?_
        rw [th_cl (by omega), hH L (by omega)]
        show pm_W _ _ _ _ _ _ (.ref (ad 2 (rs_g a z (rs_s (rs_N z) L))) :: _) _ _ _ _
        refine pm_lload dX9_countsOver_100 rfl ?_
        refine pm_lload dX9_countsOver_102 rfl ?_
        refine pm_iload_n dX9_countsOver_104 rfl rfl ?_
        refine pm_callS (M2 := m_X9_countsOfAll) (As := [_, _, _, _, _]) ok_X9_countsOfAll kw_747 kw_748 dX9_countsOver_105 rfl rfl (Nat.le_of_ble_eq_true rfl) ⟨⟨Nat.le_of_ble_eq_true rfl, Nat.le_of_ble_eq_true rfl⟩, Nat.le_of_ble_eq_true rfl, Nat.le_of_ble_eq_true rfl⟩ ?_
        refine c_X9_countsOfAll hI m1 m2 gh gl (fun C2 hC2 h2 => ?_)
        refine pm_lor dX9_countsOver_108 ?_
        rw [rb_or]
        refine pm_lstore (lv2 := [(4, _), (11, _), (9, _), (8, _), (7, _), (6, _), (0, _), (1, _), (2, _), (3, _)]) dX9_countsOver_109 (Nat.le_of_ble_eq_true rfl) rfl ?_
        refine pm_iinc (lv2 := [(8, _), (4, _), (11, _), (9, _), (7, _), (6, _), (0, _), (1, _), (2, _), (3, _)]) dX9_countsOver_111 rfl (nI_1 p) (Nat.le_of_ble_eq_true rfl) rfl ?_
        refine pm_goto (tgt := 28) dX9_countsOver_114 (by decide) ?_
        refine pm_pick [0, 4, 5, 1, 6, 7, 8, 9] rfl ?_
        refine K (by omega) (C ||| C2) (Nat.or_lt_two_pow hC hC2) (fun v => ?_)
        rw [Nat.testBit_or, Bool.or_eq_true, hE, h2, rs_Eone hs32 hl h3, rs_sl hl] at *
        refine or_congr Iff.rfl ?_
        exact ⟨fun ⟨x, y, b1, b2, b3⟩ => ⟨x, y, (f1 x).mp b1, (f2 y).mp b2, b3⟩, fun ⟨x, y, b1, b2, b3⟩ => ⟨x, y, (f1 x).mpr b1, (f2 y).mpr b2, b3⟩⟩

set_option maxHeartbeats 600000 in
set_option maxRecDepth 100000 in
theorem c_X9_countsOver {l : Launch} {G : pm_G} {ad : Nat → Nat → Nat} {S : Nat → Nat} {A : Nat → Nat → Int32} {X : Nat → Int32} {Y : Nat → Nat → Int32} {F : Nat → Int64} {Hd Cs : Nat → Option Nat} {m : List pm_A} {Q : pm_T} {a z h s : Nat} (hI : th_I S A) (ha : a < S 11) (hz : z < 2 ^ S 11) (hb : rs_N z ≤ 5) (hH : (∀ h, h ≤ rs_N z → Hd h = some (ad 2 (rs_g a z (rs_s (rs_N z) h))))) (hh : h ≤ rs_N z) (hs : s < 2 ^ rs_N z) (hs0 : s.testBit h = false) (hT : ∀ s2 h2, h2 ≤ rs_N z → s2.testBit h2 = false → s2 < s → rs_tab S A a z F h2 s2) (hne : ¬ s = 0) (hQ : ∀ M, M < 2 ^ 63 → (∀ v, M.testBit v = true ↔ rh_T (rs_N z) (rs_c A a z) (rs_q S A a z) (rs_s (rs_N z) h) s v) → Q ad (some (.long (lN M))) (rs_cz ad S A X Y F Hd Cs m (nI (rs_N z)))) : pm_C l G m_X9_countsOver [.ref (ad 5 0), .int (nI h), .int (nI s), .int (nI (S 6))] ad (rs_cz ad S A X Y F Hd Cs m (nI (rs_N z))) Q := by
  have hp5 : 2 ^ rs_N z ≤ 2 ^ 5 := Nat.pow_le_pow_right (by decide) hb
  refine pm_met (by decide) (Nat.le_of_ble_eq_true rfl) ?_
  refine pm_lconst (v := 0) dX9_countsOver_0 (by decide) ?_
  refine pm_lstore (lv2 := [(4, _), (0, _), (1, _), (2, _), (3, _)]) dX9_countsOver_1 (Nat.le_of_ble_eq_true rfl) rfl ?_
  refine pm_iconst (v := 0) dX9_countsOver_3 (by decide) ?_
  refine pm_istore (lv2 := [(6, _), (4, _), (0, _), (1, _), (2, _), (3, _)]) dX9_countsOver_4 (Nat.le_of_ble_eq_true rfl) rfl ?_
  suffices H : ∀ L, L ≤ rs_N z → ∀ C, C < 2 ^ 63 → (∀ v, C.testBit v = true ↔ rs_E S A a z h s L 0 v) → pm_W l G m_X9_countsOver ad 6 [(6, .int (nI L)), (4, .long (lN C)), (0, .ref (ad 5 0)), (1, .int (nI h)), (2, .int (nI s)), (3, .int (nI (S 6)))] [] (rs_cz ad S A X Y F Hd Cs m (nI (rs_N z))) 0 0 Q from H 0 (Nat.zero_le _) 0 (by decide) (fun v => ⟨fun q => absurd q (by simp), fun ⟨l2, p2, r, x, y, q, _⟩ => by omega⟩)
  refine th_loop _ ?_
  intro L hL K C hC hE
  refine pm_iload dX9_countsOver_6 rfl ?_
  refine pm_aload_n dX9_countsOver_8 rfl rfl ?_
  refine pm_get fl_RX9_21_9 dX9_countsOver_9 rfl rfl ?_
  refine pm_icmp_ge (tgt := 123) dX9_countsOver_12 (by decide) (fun c_12 => ?_) (fun c_12 => ?_)
  · have e : L = rs_N z := by
      have := (nI_leI (by omega) (by omega)).mp c_12
      omega
    subst e
    refine pm_lload dX9_countsOver_123 rfl ?_
    refine pm_lret dX9_countsOver_125 rfl rfl rfl ?_
    exact hQ C hC (fun v => by rw [hE, rs_EN hne])
  · have hlt : L < rs_N z := Nat.lt_of_not_le (fun q => c_12 ((nI_leI (by omega) (by omega)).mpr q))
    refine pm_iload_n dX9_countsOver_15 rfl rfl ?_
    refine pm_iconst (v := 1) dX9_countsOver_16 (by decide) ?_
    refine pm_iload dX9_countsOver_17 rfl ?_
    refine pm_ishl dX9_countsOver_19 ?_
    refine pm_iconst (v := (-1)) dX9_countsOver_20 (by decide) ?_
    refine pm_ixor dX9_countsOver_21 ?_
    refine pm_iand dX9_countsOver_22 ?_
    rw [show nI s &&& (((1 : Int32) <<< (nI L &&& 31)) ^^^ (-1)) = nI (rs_re s L) from rs_i1 s (by omega) L (by omega)]
    refine pm_istore (lv2 := [(7, _), (6, _), (4, _), (0, _), (1, _), (2, _), (3, _)]) dX9_countsOver_23 (Nat.le_of_ble_eq_true rfl) rfl ?_
    refine pm_iconst (v := 0) dX9_countsOver_25 (by decide) ?_
    refine pm_istore (lv2 := [(8, _), (7, _), (6, _), (4, _), (0, _), (1, _), (2, _), (3, _)]) dX9_countsOver_26 (Nat.le_of_ble_eq_true rfl) rfl ?_
    refine pm_pick [0, 1, 2, 3, 4, 5, 6, 7] rfl ?_
    suffices H : ∀ p, p ≤ 32 → ∀ C, C < 2 ^ 63 → (∀ v, C.testBit v = true ↔ rs_E S A a z h s L p v) → pm_W l G m_X9_countsOver ad 28 [(8, .int (nI p)), (7, .int (nI (rs_re s L))), (6, .int (nI L)), (4, .long (lN C)), (0, .ref (ad 5 0)), (1, .int (nI h)), (2, .int (nI s)), (3, .int (nI (S 6)))] [] (rs_cz ad S A X Y F Hd Cs m (nI (rs_N z))) 0 0 Q from H 0 (Nat.zero_le _) C hC hE
    refine th_loop _ ?_
    intro p hp K2 C hC hE
    exact b_X9_co28 hI ha hz hb hH hh hs hs0 hT hlt hp hC hE (K hlt) K2

