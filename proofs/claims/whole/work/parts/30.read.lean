/-- a reading: what is awaited, how many terms, the terms, the rule of tangled strings -/
abbrev th_P : Type := Nat × Nat × (Nat → Int32) × Int32
abbrev th_dg (c : Int32) : Prop := 48 ≤ c ∧ c ≤ 57
abbrev th_l5 (c : Int32) : Prop := c = 120 ∨ c = 121 ∨ c = 109 ∨ c = 108 ∨ c = 104
abbrev th_t3 (c : Int32) : Prop := c = 116 ∨ c = 111 ∨ c = 110
def th_go (p : th_P) (c : Int32) : Option th_P :=
  if p.1 = 0 then (if th_dg c then some (if c = 48 then 1 else 2, p.2.1 + 1, upd p.2.2.1 p.2.1 (c - 48), p.2.2.2) else if th_l5 c then some (1, p.2.1 + 1, upd p.2.2.1 p.2.1 (-c), p.2.2.2) else none)
  else if p.1 = 2 ∧ th_dg c then some (1, p.2.1, upd p.2.2.1 (p.2.1 - 1) (10 * p.2.2.1 (p.2.1 - 1) + c - 48), p.2.2.2)
  else if p.1 < 3 then (if c = 59 then some (3, p.2) else if c = 43 ∧ p.2.1 < 4 then some (0, p.2) else none)
  else if p.1 = 3 ∧ th_t3 c then some (4, p.2.1, p.2.2.1, c) else none
theorem th_go0 {m : Nat} {f : Nat → Int32} {t c : Int32} : th_go (0, m, f, t) c = (if th_dg c then some (if c = 48 then 1 else 2, m + 1, upd f m (c - 48), t) else if th_l5 c then some (1, m + 1, upd f m (-c), t) else none) := if_pos rfl
theorem th_go2 {m : Nat} {f : Nat → Int32} {t c : Int32} (h : th_dg c) : th_go (2, m, f, t) c = some (1, m, upd f (m - 1) (10 * f (m - 1) + c - 48), t) := (if_neg (by simp)).trans (if_pos ⟨rfl, h⟩)
theorem th_go12 {st m : Nat} {f : Nat → Int32} {t c : Int32} (hs : st = 1 ∨ st = 2) (h : ¬ (st = 2 ∧ th_dg c)) : th_go (st, m, f, t) c = (if c = 59 then some (3, m, f, t) else if c = 43 ∧ m < 4 then some (0, m, f, t) else none) :=
  (if_neg (by show ¬ st = 0; omega)).trans ((if_neg h).trans (if_pos (by show st < 3; omega)))
theorem th_go3 {m : Nat} {f : Nat → Int32} {t c : Int32} (h : th_t3 c) : th_go (3, m, f, t) c = some (4, m, f, c) := (if_neg (by simp)).trans ((if_neg (fun z => absurd z.1 (by simp))).trans ((if_neg (by simp)).trans (if_pos ⟨rfl, h⟩)))
theorem th_go3n {m : Nat} {f : Nat → Int32} {t c : Int32} (h : ¬ th_t3 c) : th_go (3, m, f, t) c = none := (if_neg (by simp)).trans ((if_neg (fun z => absurd z.1 (by simp))).trans ((if_neg (by simp)).trans (if_neg (fun z => h z.2))))
theorem th_go4 {m : Nat} {f : Nat → Int32} {t c : Int32} : th_go (4, m, f, t) c = none := (if_neg (by simp)).trans ((if_neg (fun z => absurd z.1 (by simp))).trans ((if_neg (by simp)).trans (if_neg (fun z => absurd z.1 (by simp)))))
def th_RM (p : th_P) (s : Nat → Int32) (B : Nat → Nat → Int32) : Prop := s 7 = nI p.1 ∧ s 8 = nI p.2.1 ∧ (∀ k, k < p.2.1 → B 5 k = p.2.2.1 k) ∧ (p.1 = 4 → s 9 = p.2.2.2)
abbrev th_tv (x : Int32) : Prop := (∃ v : Nat, v ≤ 99 ∧ x = nI v) ∨ x = -120 ∨ x = -121 ∨ x = -109 ∨ x = -108 ∨ x = -104
def th_PI (p : th_P) : Prop := p.1 ≤ 4 ∧ p.2.1 ≤ 4 ∧ (p.1 = 0 → p.2.1 < 4) ∧ (¬ p.1 = 0 → 1 ≤ p.2.1) ∧ (p.1 = 2 → ∃ d : Nat, 1 ≤ d ∧ d ≤ 9 ∧ p.2.2.1 (p.2.1 - 1) = nI d) ∧ (∀ k, k < p.2.1 → th_tv (p.2.2.1 k)) ∧ (p.1 = 4 → th_t3 p.2.2.2)
theorem th_dgN {c : Int32} (h : th_dg c) : ∃ e : Nat, 48 ≤ e ∧ e ≤ 57 ∧ c = nI e := by
  obtain ⟨e, he, rfl⟩ := th_03 (Int32.le_trans (by decide) h.1) (n := 57) (by decide) h.2
  exact ⟨e, (nI_leI (a := 48) (by decide) (by omega)).mp h.1, he, rfl⟩
theorem th_uf {f g : Nat → Int32} {m : Nat} {x : Int32} (h : ∀ k, k < m → g k = f k) : ∀ k, k < m + 1 → upd g m x k = upd f m x k := by
  intro k hk
  unfold upd
  by_cases e : k = m
  · rw [if_pos e, if_pos e]
  · rw [if_neg e, if_neg e, h k (by omega)]
theorem th_uf2 {f g : Nat → Int32} {m i : Nat} {x : Int32} (h : ∀ k, k < m → g k = f k) : ∀ k, k < m → upd g i x k = upd f i x k := by
  intro k hk
  unfold upd
  by_cases e : k = i
  · rw [if_pos e, if_pos e]
  · rw [if_neg e, if_neg e, h k hk]
theorem th_uv {f : Nat → Int32} {m i : Nat} {x : Int32} (h : ∀ k, k < m → ¬ k = i → th_tv (f k)) (hx : th_tv x) : ∀ k, k < m → th_tv (upd f i x k) := by
  intro k hk
  by_cases e : k = i
  · rw [upd, if_pos e]; exact hx
  · rw [upd, if_neg e]; exact h k hk e
theorem th_PI_go {p q : th_P} {c : Int32} (hp : th_PI p) (h : th_go p c = some q) : th_PI q := by
  obtain ⟨st, m, f, t⟩ := p
  obtain ⟨h1, h2, h3, h4, h5, h6, h7⟩ := hp
  have g1 : st ≤ 4 := h1
  have g2 : m ≤ 4 := h2
  have g3 : st = 0 → m < 4 := h3
  have g4 : ¬ st = 0 → 1 ≤ m := h4
  have g6 : ∀ k, k < m → th_tv (f k) := h6
  clear h1 h2 h3 h4 h6
  by_cases e0 : st = 0
  · subst e0
    rw [th_go0] at h
    have hm := g3 rfl
    by_cases hd : th_dg c
    · rw [if_pos hd] at h
      obtain ⟨e, he1, he2, rfl⟩ := th_dgN hd
      have ec : nI e - 48 = nI (e - 48) := pk_sub (b := 48) he1
      have hv : th_tv (nI e - 48) := Or.inl ⟨e - 48, by omega, ec⟩
      have hall : ∀ k, k < m + 1 → th_tv (upd f m (nI e - 48) k) := th_uv (m := m + 1) (fun k hk hne => g6 k (by omega)) hv
      cases h
      by_cases e8 : nI e = 48
      · rw [if_pos e8]
        exact ⟨by simp, hm, fun z => absurd z (by simp), fun _ => by show 1 ≤ m + 1; omega, fun z => absurd z (by simp), hall, fun z => absurd z (by simp)⟩
      · rw [if_neg e8]
        refine ⟨by simp, hm, fun z => absurd z (by simp), fun _ => by show 1 ≤ m + 1; omega, fun _ => ⟨e - 48, ?_, by omega, ?_⟩, hall, fun z => absurd z (by simp)⟩
        · have : ¬ e = 48 := fun z => e8 (by rw [z]; rfl)
          omega
        · show upd f m (nI e - 48) (m + 1 - 1) = _
          rw [Nat.add_sub_cancel, upd, if_pos rfl, ec]
    · rw [if_neg hd] at h
      by_cases hl : th_l5 c
      · rw [if_pos hl] at h
        cases h
        have hv : th_tv (-c) := by
          rcases hl with rfl | rfl | rfl | rfl | rfl
          · exact Or.inr (Or.inl rfl)
          · exact Or.inr (Or.inr (Or.inl rfl))
          · exact Or.inr (Or.inr (Or.inr (Or.inl rfl)))
          · exact Or.inr (Or.inr (Or.inr (Or.inr (Or.inl rfl))))
          · exact Or.inr (Or.inr (Or.inr (Or.inr (Or.inr rfl))))
        exact ⟨by simp, hm, fun z => absurd z (by simp), fun _ => by show 1 ≤ m + 1; omega, fun z => absurd z (by simp), th_uv (m := m + 1) (fun k hk hne => g6 k (by omega)) hv, fun z => absurd z (by simp)⟩
      · rw [if_neg hl] at h; cases h
  · have hm1 := g4 e0
    by_cases hd : st = 2 ∧ th_dg c
    · obtain ⟨rfl, hd⟩ := hd
      rw [th_go2 hd] at h
      cases h
      obtain ⟨d, hd1, hd2, ed⟩ := h5 rfl
      have ed : f (m - 1) = nI d := ed
      obtain ⟨e, he1, he2, rfl⟩ := th_dgN hd
      have ev : 10 * f (m - 1) + nI e - 48 = nI (10 * d + e - 48) := by
        rw [ed, show (10 : Int32) * nI d = nI (10 * d) from pk_mul 10 d, nI_add]
        exact pk_sub (b := 48) (by omega)
      exact ⟨by simp, g2, fun z => absurd z (by simp), fun _ => hm1, fun z => absurd z (by simp), th_uv (m := m) (fun k hk hne => g6 k hk) (Or.inl ⟨10 * d + e - 48, by omega, ev⟩), fun z => absurd z (by simp)⟩
    · by_cases h12 : st = 1 ∨ st = 2
      · rw [th_go12 h12 hd] at h
        by_cases e9 : c = 59
        · rw [if_pos e9] at h
          cases h
          exact ⟨by simp, g2, fun z => absurd z (by simp), fun _ => hm1, fun z => absurd z (by simp), g6, fun z => absurd z (by simp)⟩
        · rw [if_neg e9] at h
          by_cases e43 : c = 43 ∧ m < 4
          · rw [if_pos e43] at h
            cases h
            exact ⟨by simp, g2, fun _ => e43.2, fun z => absurd rfl z, fun z => absurd z (by simp), g6, fun z => absurd z (by simp)⟩
          · rw [if_neg e43] at h; cases h
      · by_cases e3 : st = 3
        · subst e3
          by_cases ht : th_t3 c
          · rw [th_go3 ht] at h
            cases h
            exact ⟨by simp, g2, fun z => absurd z (by simp), fun _ => hm1, fun z => absurd z (by simp), g6, fun _ => ht⟩
          · rw [th_go3n ht] at h; cases h
        · have e4 : st = 4 := by omega
          subst e4
          rw [th_go4] at h; cases h
/-- the reading of the page's first letters -/
def th_ru (A : Nat → Nat → Int32) : Nat → Option th_P
  | 0 => some (0, 0, fun _ => 0, 0)
  | k + 1 => (th_ru A k).bind (fun p => th_go p (A 1 k))
theorem th_ru_s {A : Nat → Nat → Int32} {k : Nat} {p : th_P} (h : th_ru A k = some p) : th_ru A (k + 1) = th_go p (A 1 k) := by rw [th_ru, h]; rfl
theorem th_ru_PI {A : Nat → Nat → Int32} : ∀ k p, th_ru A k = some p → th_PI p := by
  intro k
  induction k with
  | zero =>
    intro p h
    cases h
    exact ⟨by simp, by simp, fun _ => by simp, fun z => absurd rfl z, fun z => absurd z (by simp), fun k hk => absurd hk (Nat.not_lt_zero k), fun z => absurd z (by simp)⟩
  | succ k ih =>
    intro p h
    cases hq : th_ru A k with
    | none => rw [th_ru, hq] at h; cases h
    | some q => rw [th_ru_s hq] at h; exact th_PI_go (ih q hq) h
def th_fp (A : Nat → Nat → Int32) : Nat → Nat
  | 0 => 0
  | n + 1 => if (th_ru A (n + 1)).isSome = true then n + 1 else th_fp A n
theorem th_fp_all {A : Nat → Nat → Int32} {n : Nat} {p : th_P} (h : th_ru A n = some p) : th_fp A n = n := by
  cases n with
  | zero => rfl
  | succ n => rw [th_fp, h]; exact if_pos rfl
theorem th_ru_none {A : Nat → Nat → Int32} {k : Nat} (h : th_ru A (k + 1) = none) : ∀ n, k < n → th_ru A n = none := by
  intro n
  induction n with
  | zero => intro h2; exact absurd h2 (Nat.not_lt_zero k)
  | succ n ih =>
    intro h2
    by_cases e : k = n
    · rw [← e]; exact h
    · rw [th_ru, ih (by omega)]; rfl
theorem th_fp_k {A : Nat → Nat → Int32} {k : Nat} {p : th_P} (hp : th_ru A k = some p) (h : th_ru A (k + 1) = none) : ∀ n, k < n → th_fp A n = k := by
  intro n
  induction n with
  | zero => intro h2; exact absurd h2 (Nat.not_lt_zero k)
  | succ n ih =>
    intro h2
    rw [th_fp, th_ru_none h (n + 1) h2, if_neg (by decide)]
    by_cases e : k = n
    · rw [← e]; exact th_fp_all hp
    · exact ih (by omega)
set_option maxHeartbeats 600000 in
set_option maxRecDepth 100000 in
theorem g_go0 {l : Launch} {G : pm_G} {ad : Nat → Nat → Nat} {a0 a3 a4 a5 a6 a7 : List pm_A} {a1 a2 : Nat → Option pm_A} {S : Nat → Nat} {A : Nat → Nat → Int32} {s : Nat → Int32} {B : Nat → Nat → Int32} {hs : Int64} {Q : pm_T} {m : Nat} {f : Nat → Int32} {t c : Int32} (h7 : s 7 = 0) (h8 : s 8 = nI m) (hf : ∀ k, k < m → B 5 k = f k) (hm : m < 4) (h1 : ∀ p s2 B2, th_go (0, m, f, t) c = some p → th_RM p s2 B2 → Q ad (some (.int 1)) (a0, a1, a2, a3, a4, a5, a6, a7, th_mp ad S A s2 B2 hs)) (h0 : ∀ s2 B2, th_go (0, m, f, t) c = none → Q ad (some (.int 0)) (a0, a1, a2, a3, a4, a5, a6, a7, th_mp ad S A s2 B2 hs)) : pm_C l G m_X12_go [.ref (ad 8 0), .int c] ad (a0, a1, a2, a3, a4, a5, a6, a7, th_mp ad S A s B hs) Q := by
  refine pm_met (by decide) (Nat.le_of_ble_eq_true rfl) ?_
  refine pm_aload_n dX12_go_0 rfl rfl ?_
  refine pm_get fl_RX12_86_12 dX12_go_1 rfl rfl ?_
  rw [h7]
  refine pm_if_ne (tgt := 110) dX12_go_4 (by decide) (fun c_4 => absurd (rfl) c_4) (fun c_4 => ?_)
  refine pm_iload_n dX12_go_7 rfl rfl ?_
  refine pm_i2l dX12_go_8 ?_
  refine pm_ldc2 kw_1113 dX12_go_9 ?_
  refine pm_ldc2 kw_1114 dX12_go_12 ?_
  refine pm_callS (M2 := m_X12_in) (As := [_, _, _]) ok_X12_in kw_1115 kw_1116 dX12_go_15 rfl rfl (Nat.le_of_ble_eq_true rfl) ⟨⟨Nat.le_of_ble_eq_true rfl, Nat.le_of_ble_eq_true rfl⟩, Nat.le_of_ble_eq_true rfl, Nat.le_of_ble_eq_true rfl⟩ ?_
  refine c_X12_in32 (lo := 48) (hi := 57) rfl rfl (fun u v => ?_) (fun hd => ?_)
  · have hd : th_dg c := ⟨u, v⟩
    refine pm_istore_n (lv2 := [(2, _), (0, _), (1, _)]) dX12_go_18 rfl (Nat.le_of_ble_eq_true rfl) rfl ?_
    refine pm_aload_n dX12_go_19 rfl rfl ?_
    refine pm_get fl_RX12_22_12 dX12_go_20 rfl rfl ?_
    refine pm_aload_n dX12_go_23 rfl rfl ?_
    refine pm_get fl_RX12_97_12 dX12_go_24 rfl rfl ?_
    rw [h8]
    refine pm_iload_n dX12_go_27 rfl rfl ?_
    refine pm_if_eq (tgt := 38) dX12_go_28 (by decide) (fun c_28 => absurd c_28 (by decide)) (fun c_28 => ?_)
    refine pm_iload_n dX12_go_31 rfl rfl ?_
    refine pm_bipush (v := 48) dX12_go_32 (by decide) ?_
    refine pm_isub dX12_go_34 ?_
    refine pm_goto (tgt := 40) dX12_go_35 (by decide) ?_
    refine pm_iast (w2 := (_, _, _, _, _, _, _, _, [_, _, _, _, _, _, _, _, _, _, _, _, _, _, _, _, _, _, _, _, _, _, _, _])) dX12_go_40 rfl (th_in hm (by decide)) rfl ?_
    rw [th_cl (by omega)]
    refine pm_aload_n dX12_go_41 rfl rfl ?_
    refine pm_dup dX12_go_42 rfl ?_
    refine pm_get fl_RX12_97_12 dX12_go_43 rfl rfl ?_
    rw [h8]
    refine pm_iconst (v := 1) dX12_go_46 (by decide) ?_
    refine pm_iadd dX12_go_47 ?_
    rw [nI_1]
    refine pm_put (w2 := (_, _, _, _, _, _, _, _, [.inr (_, [_, _, _, _, _, _, _, _, _, _, _, _, _, _, _, _, _, _, _, _, _, _, _, _, _, _, _, _, _, _, _, _, _, _, _, _, _, _, _, _, _, _, _, _]), _, _, _, _, _, _, _, _, _, _, _, _, _, _, _, _, _, _, _, _, _, _, _])) fl_RX12_97_12 fp_12_8 dX12_go_48 rfl rfl rfl (Nat.le_of_ble_eq_true rfl) rfl ?_
    refine pm_aload_n dX12_go_51 rfl rfl ?_
    refine pm_iload_n dX12_go_52 rfl rfl ?_
    refine pm_if_eq (tgt := 66) dX12_go_53 (by decide) (fun c_53 => absurd c_53 (by decide)) (fun c_53 => ?_)
    refine pm_iload_n dX12_go_56 rfl rfl ?_
    refine pm_bipush (v := 48) dX12_go_57 (by decide) ?_
    refine pm_icmp_eq (tgt := 66) dX12_go_59 (by decide) (fun c_59 => ?_) (fun c_59 => ?_)
    · refine pm_iconst (v := 1) dX12_go_66 (by decide) ?_
      refine pm_put (w2 := (_, _, _, _, _, _, _, _, [.inr (_, [_, _, _, _, _, _, _, _, _, _, _, _, _, _, _, _, _, _, _, _, _, _, _, _, _, _, _, _, _, _, _, _, _, _, _, _, _, _, _, _, _, _, _, _]), _, _, _, _, _, _, _, _, _, _, _, _, _, _, _, _, _, _, _, _, _, _, _])) fl_RX12_86_12 fp_12_7 dX12_go_67 rfl rfl rfl (Nat.le_of_ble_eq_true rfl) rfl ?_
      refine pm_iload_n dX12_go_70 rfl rfl ?_
      refine pm_if_ne (tgt := 104) dX12_go_71 (by decide) (fun c_71 => ?_) (fun c_71 => absurd c_71 (by decide))
      refine pm_iconst (v := 1) dX12_go_104 (by decide) ?_
      refine pm_goto (tgt := 109) dX12_go_105 (by decide) ?_
      refine pm_zret dX12_go_109 rfl rfl rfl rfl ?_
      refine h1 (1, m + 1, upd f m (c - 48), t) (upd (upd s 8 (nI (m + 1))) 7 1) (va_up B 5 (upd (B 5) m (c - 48))) ?_ ⟨rfl, rfl, th_uf hf, fun e => absurd e (by simp)⟩
      rw [th_go0, if_pos hd, if_pos c_59]
    · refine pm_iconst (v := 2) dX12_go_62 (by decide) ?_
      refine pm_goto (tgt := 67) dX12_go_63 (by decide) ?_
      refine pm_put (w2 := (_, _, _, _, _, _, _, _, [.inr (_, [_, _, _, _, _, _, _, _, _, _, _, _, _, _, _, _, _, _, _, _, _, _, _, _, _, _, _, _, _, _, _, _, _, _, _, _, _, _, _, _, _, _, _, _]), _, _, _, _, _, _, _, _, _, _, _, _, _, _, _, _, _, _, _, _, _, _, _])) fl_RX12_86_12 fp_12_7 dX12_go_67 rfl rfl rfl (Nat.le_of_ble_eq_true rfl) rfl ?_
      refine pm_iload_n dX12_go_70 rfl rfl ?_
      refine pm_if_ne (tgt := 104) dX12_go_71 (by decide) (fun c_71 => ?_) (fun c_71 => absurd c_71 (by decide))
      refine pm_iconst (v := 1) dX12_go_104 (by decide) ?_
      refine pm_goto (tgt := 109) dX12_go_105 (by decide) ?_
      refine pm_zret dX12_go_109 rfl rfl rfl rfl ?_
      refine h1 (2, m + 1, upd f m (c - 48), t) (upd (upd s 8 (nI (m + 1))) 7 2) (va_up B 5 (upd (B 5) m (c - 48))) ?_ ⟨rfl, rfl, th_uf hf, fun e => absurd e (by simp)⟩
      rw [th_go0, if_pos hd, if_neg c_59]
  · refine pm_istore_n (lv2 := [(2, _), (0, _), (1, _)]) dX12_go_18 rfl (Nat.le_of_ble_eq_true rfl) rfl ?_
    refine pm_aload_n dX12_go_19 rfl rfl ?_
    refine pm_get fl_RX12_22_12 dX12_go_20 rfl rfl ?_
    refine pm_aload_n dX12_go_23 rfl rfl ?_
    refine pm_get fl_RX12_97_12 dX12_go_24 rfl rfl ?_
    rw [h8]
    refine pm_iload_n dX12_go_27 rfl rfl ?_
    refine pm_if_eq (tgt := 38) dX12_go_28 (by decide) (fun c_28 => ?_) (fun c_28 => absurd (rfl) c_28)
    refine pm_iload_n dX12_go_38 rfl rfl ?_
    refine pm_ineg dX12_go_39 ?_
    refine pm_iast (w2 := (_, _, _, _, _, _, _, _, [_, _, _, _, _, _, _, _, _, _, _, _, _, _, _, _, _, _, _, _, _, _, _, _])) dX12_go_40 rfl (th_in hm (by decide)) rfl ?_
    rw [th_cl (by omega)]
    refine pm_aload_n dX12_go_41 rfl rfl ?_
    refine pm_dup dX12_go_42 rfl ?_
    refine pm_get fl_RX12_97_12 dX12_go_43 rfl rfl ?_
    rw [h8]
    refine pm_iconst (v := 1) dX12_go_46 (by decide) ?_
    refine pm_iadd dX12_go_47 ?_
    rw [nI_1]
    refine pm_put (w2 := (_, _, _, _, _, _, _, _, [.inr (_, [_, _, _, _, _, _, _, _, _, _, _, _, _, _, _, _, _, _, _, _, _, _, _, _, _, _, _, _, _, _, _, _, _, _, _, _, _, _, _, _, _, _, _, _]), _, _, _, _, _, _, _, _, _, _, _, _, _, _, _, _, _, _, _, _, _, _, _])) fl_RX12_97_12 fp_12_8 dX12_go_48 rfl rfl rfl (Nat.le_of_ble_eq_true rfl) rfl ?_
    refine pm_aload_n dX12_go_51 rfl rfl ?_
    refine pm_iload_n dX12_go_52 rfl rfl ?_
    refine pm_if_eq (tgt := 66) dX12_go_53 (by decide) (fun c_53 => ?_) (fun c_53 => absurd (rfl) c_53)
    refine pm_iconst (v := 1) dX12_go_66 (by decide) ?_
    refine pm_put (w2 := (_, _, _, _, _, _, _, _, [.inr (_, [_, _, _, _, _, _, _, _, _, _, _, _, _, _, _, _, _, _, _, _, _, _, _, _, _, _, _, _, _, _, _, _, _, _, _, _, _, _, _, _, _, _, _, _]), _, _, _, _, _, _, _, _, _, _, _, _, _, _, _, _, _, _, _, _, _, _, _])) fl_RX12_86_12 fp_12_7 dX12_go_67 rfl rfl rfl (Nat.le_of_ble_eq_true rfl) rfl ?_
    refine pm_iload_n dX12_go_70 rfl rfl ?_
    refine pm_if_ne (tgt := 104) dX12_go_71 (by decide) (fun c_71 => absurd (rfl) c_71) (fun c_71 => ?_)
    refine pm_iload_n dX12_go_74 rfl rfl ?_
    refine pm_bipush (v := 120) dX12_go_75 (by decide) ?_
    refine pm_icmp_eq (tgt := 104) dX12_go_77 (by decide) (fun c_77 => ?_) (fun c_77 => ?_)
    · refine pm_iconst (v := 1) dX12_go_104 (by decide) ?_
      refine pm_goto (tgt := 109) dX12_go_105 (by decide) ?_
      refine pm_zret dX12_go_109 rfl rfl rfl rfl ?_
      have hl : th_l5 c := Or.inl c_77
      refine h1 (1, m + 1, upd f m (-c), t) (upd (upd s 8 (nI (m + 1))) 7 1) (va_up B 5 (upd (B 5) m (-c))) ?_ ⟨rfl, rfl, th_uf hf, fun e => absurd e (by simp)⟩
      rw [th_go0, if_neg hd, if_pos hl]
    · refine pm_iload_n dX12_go_80 rfl rfl ?_
      refine pm_bipush (v := 121) dX12_go_81 (by decide) ?_
      refine pm_icmp_eq (tgt := 104) dX12_go_83 (by decide) (fun c_83 => ?_) (fun c_83 => ?_)
      · refine pm_iconst (v := 1) dX12_go_104 (by decide) ?_
        refine pm_goto (tgt := 109) dX12_go_105 (by decide) ?_
        refine pm_zret dX12_go_109 rfl rfl rfl rfl ?_
        have hl : th_l5 c := Or.inr (Or.inl c_83)
        refine h1 (1, m + 1, upd f m (-c), t) (upd (upd s 8 (nI (m + 1))) 7 1) (va_up B 5 (upd (B 5) m (-c))) ?_ ⟨rfl, rfl, th_uf hf, fun e => absurd e (by simp)⟩
        rw [th_go0, if_neg hd, if_pos hl]
      · refine pm_iload_n dX12_go_86 rfl rfl ?_
        refine pm_bipush (v := 109) dX12_go_87 (by decide) ?_
        refine pm_icmp_eq (tgt := 104) dX12_go_89 (by decide) (fun c_89 => ?_) (fun c_89 => ?_)
        · refine pm_iconst (v := 1) dX12_go_104 (by decide) ?_
          refine pm_goto (tgt := 109) dX12_go_105 (by decide) ?_
          refine pm_zret dX12_go_109 rfl rfl rfl rfl ?_
          have hl : th_l5 c := Or.inr (Or.inr (Or.inl c_89))
          refine h1 (1, m + 1, upd f m (-c), t) (upd (upd s 8 (nI (m + 1))) 7 1) (va_up B 5 (upd (B 5) m (-c))) ?_ ⟨rfl, rfl, th_uf hf, fun e => absurd e (by simp)⟩
          rw [th_go0, if_neg hd, if_pos hl]
        · refine pm_iload_n dX12_go_92 rfl rfl ?_
          refine pm_bipush (v := 108) dX12_go_93 (by decide) ?_
          refine pm_icmp_eq (tgt := 104) dX12_go_95 (by decide) (fun c_95 => ?_) (fun c_95 => ?_)
          · refine pm_iconst (v := 1) dX12_go_104 (by decide) ?_
            refine pm_goto (tgt := 109) dX12_go_105 (by decide) ?_
            refine pm_zret dX12_go_109 rfl rfl rfl rfl ?_
            have hl : th_l5 c := Or.inr (Or.inr (Or.inr (Or.inl c_95)))
            refine h1 (1, m + 1, upd f m (-c), t) (upd (upd s 8 (nI (m + 1))) 7 1) (va_up B 5 (upd (B 5) m (-c))) ?_ ⟨rfl, rfl, th_uf hf, fun e => absurd e (by simp)⟩
            rw [th_go0, if_neg hd, if_pos hl]
          · refine pm_iload_n dX12_go_98 rfl rfl ?_
            refine pm_bipush (v := 104) dX12_go_99 (by decide) ?_
            refine pm_icmp_ne (tgt := 108) dX12_go_101 (by decide) (fun c_101 => ?_) (fun c_101 => ?_)
            · refine pm_iconst (v := 0) dX12_go_108 (by decide) ?_
              refine pm_zret dX12_go_109 rfl rfl rfl rfl ?_
              have hl : ¬ th_l5 c := fun z => z.elim c_77 (fun z => z.elim c_83 (fun z => z.elim c_89 (fun z => z.elim c_95 c_101)))
              refine h0 (upd (upd s 8 (nI (m + 1))) 7 1) (va_up B 5 (upd (B 5) m (-c))) ?_
              rw [th_go0, if_neg hd, if_neg hl]
            · refine pm_iconst (v := 1) dX12_go_104 (by decide) ?_
              refine pm_goto (tgt := 109) dX12_go_105 (by decide) ?_
              refine pm_zret dX12_go_109 rfl rfl rfl rfl ?_
              have hl : th_l5 c := Or.inr (Or.inr (Or.inr (Or.inr c_101)))
              refine h1 (1, m + 1, upd f m (-c), t) (upd (upd s 8 (nI (m + 1))) 7 1) (va_up B 5 (upd (B 5) m (-c))) ?_ ⟨rfl, rfl, th_uf hf, fun e => absurd e (by simp)⟩
              rw [th_go0, if_neg hd, if_pos hl]

set_option maxHeartbeats 600000 in
set_option maxRecDepth 100000 in
theorem g_go169 {l : Launch} {G : pm_G} {ad : Nat → Nat → Nat} {a0 a3 a4 a5 a6 a7 : List pm_A} {a1 a2 : Nat → Option pm_A} {S : Nat → Nat} {A : Nat → Nat → Int32} {s : Nat → Int32} {B : Nat → Nat → Int32} {hs : Int64} {Q : pm_T} {m : Nat} {f : Nat → Int32} {t c : Int32} {st : Nat} (h7 : s 7 = nI st) (h8 : s 8 = nI m) (hf : ∀ k, k < m → B 5 k = f k) (hm : m ≤ 4) (hst : st = 1 ∨ st = 2) (hx : ¬ (st = 2 ∧ th_dg c)) (h1 : ∀ p s2 B2, th_go (st, m, f, t) c = some p → th_RM p s2 B2 → Q ad (some (.int 1)) (a0, a1, a2, a3, a4, a5, a6, a7, th_mp ad S A s2 B2 hs)) (h0 : ∀ s2 B2, th_go (st, m, f, t) c = none → Q ad (some (.int 0)) (a0, a1, a2, a3, a4, a5, a6, a7, th_mp ad S A s2 B2 hs)) : pm_W l G m_X12_go ad 169 [(0, .ref (ad 8 0)), (1, .int c)] [] (a0, a1, a2, a3, a4, a5, a6, a7, th_mp ad S A s B hs) 0 0 Q := by
  refine pm_aload_n dX12_go_169 rfl rfl ?_
  refine pm_get fl_RX12_86_12 dX12_go_170 rfl rfl ?_
  rw [h7]
  refine pm_iconst (v := 3) dX12_go_173 (by decide) ?_
  refine pm_icmp_ge (tgt := 218) dX12_go_174 (by decide) (fun c_174 => absurd c_174 (by rcases hst with e | e <;> rw [e] <;> decide)) (fun c_174 => ?_)
  refine pm_aload_n dX12_go_177 rfl rfl ?_
  refine pm_iload_n dX12_go_178 rfl rfl ?_
  refine pm_bipush (v := 59) dX12_go_179 (by decide) ?_
  refine pm_icmp_ne (tgt := 188) dX12_go_181 (by decide) (fun c_181 => ?_) (fun c_181 => ?_)
  · refine pm_iconst (v := 0) dX12_go_188 (by decide) ?_
    refine pm_put (w2 := (_, _, _, _, _, _, _, _, [.inr (_, [_, _, _, _, _, _, _, _, _, _, _, _, _, _, _, _, _, _, _, _, _, _, _, _, _, _, _, _, _, _, _, _, _, _, _, _, _, _, _, _, _, _, _, _]), _, _, _, _, _, _, _, _, _, _, _, _, _, _, _, _, _, _, _, _, _, _, _])) fl_RX12_86_12 fp_12_7 dX12_go_189 rfl rfl rfl (Nat.le_of_ble_eq_true rfl) rfl ?_
    refine pm_iload_n dX12_go_192 rfl rfl ?_
    refine pm_bipush (v := 59) dX12_go_193 (by decide) ?_
    refine pm_icmp_eq (tgt := 212) dX12_go_195 (by decide) (fun c_195 => absurd c_195 (c_181)) (fun c_195 => ?_)
    refine pm_iload_n dX12_go_198 rfl rfl ?_
    refine pm_bipush (v := 43) dX12_go_199 (by decide) ?_
    refine pm_icmp_ne (tgt := 216) dX12_go_201 (by decide) (fun c_201 => ?_) (fun c_201 => ?_)
    · refine pm_iconst (v := 0) dX12_go_216 (by decide) ?_
      refine pm_zret dX12_go_217 rfl rfl rfl rfl ?_
      refine h0 (upd s 7 0) B ?_
      rw [th_go12 hst hx, if_neg c_181, if_neg (fun z => c_201 z.1)]
    · refine pm_aload_n dX12_go_204 rfl rfl ?_
      refine pm_get fl_RX12_97_12 dX12_go_205 rfl rfl ?_
      rw [h8]
      refine pm_iconst (v := 4) dX12_go_208 (by decide) ?_
      refine pm_icmp_ge (tgt := 216) dX12_go_209 (by decide) (fun c_209 => ?_) (fun c_209 => ?_)
      · refine pm_iconst (v := 0) dX12_go_216 (by decide) ?_
        refine pm_zret dX12_go_217 rfl rfl rfl rfl ?_
        refine h0 (upd (upd s 7 0) 8 (nI m)) B ?_
        rw [th_go12 hst hx, if_neg c_181, if_neg (fun z => absurd ((nI_leI (a := 4) (by decide) (by omega)).mp c_209) (by omega))]
      · refine pm_iconst (v := 1) dX12_go_212 (by decide) ?_
        refine pm_goto (tgt := 217) dX12_go_213 (by decide) ?_
        refine pm_zret dX12_go_217 rfl rfl rfl rfl ?_
        have hm4 : c = 43 ∧ m < 4 := ⟨c_201, Nat.lt_of_not_le (fun z => c_209 ((nI_leI (a := 4) (by decide) (by omega)).mpr z))⟩
        refine h1 (0, m, f, t) (upd (upd s 7 0) 8 (nI m)) B ?_ ⟨rfl, rfl, hf, fun e => absurd e (by simp)⟩
        rw [th_go12 hst hx, if_neg c_181, if_pos hm4]
  · refine pm_iconst (v := 3) dX12_go_184 (by decide) ?_
    refine pm_goto (tgt := 189) dX12_go_185 (by decide) ?_
    refine pm_put (w2 := (_, _, _, _, _, _, _, _, [.inr (_, [_, _, _, _, _, _, _, _, _, _, _, _, _, _, _, _, _, _, _, _, _, _, _, _, _, _, _, _, _, _, _, _, _, _, _, _, _, _, _, _, _, _, _, _]), _, _, _, _, _, _, _, _, _, _, _, _, _, _, _, _, _, _, _, _, _, _, _])) fl_RX12_86_12 fp_12_7 dX12_go_189 rfl rfl rfl (Nat.le_of_ble_eq_true rfl) rfl ?_
    refine pm_iload_n dX12_go_192 rfl rfl ?_
    refine pm_bipush (v := 59) dX12_go_193 (by decide) ?_
    refine pm_icmp_eq (tgt := 212) dX12_go_195 (by decide) (fun c_195 => ?_) (fun c_195 => absurd (c_181) c_195)
    refine pm_iconst (v := 1) dX12_go_212 (by decide) ?_
    refine pm_goto (tgt := 217) dX12_go_213 (by decide) ?_
    refine pm_zret dX12_go_217 rfl rfl rfl rfl ?_
    refine h1 (3, m, f, t) (upd s 7 3) B ?_ ⟨rfl, h8, hf, fun e => absurd e (by simp)⟩
    rw [th_go12 hst hx, if_pos c_181]

set_option maxHeartbeats 600000 in
set_option maxRecDepth 100000 in
theorem g_go1 {l : Launch} {G : pm_G} {ad : Nat → Nat → Nat} {a0 a3 a4 a5 a6 a7 : List pm_A} {a1 a2 : Nat → Option pm_A} {S : Nat → Nat} {A : Nat → Nat → Int32} {s : Nat → Int32} {B : Nat → Nat → Int32} {hs : Int64} {Q : pm_T} {m : Nat} {f : Nat → Int32} {t c : Int32} (h7 : s 7 = nI 1) (h8 : s 8 = nI m) (hf : ∀ k, k < m → B 5 k = f k) (hm : m ≤ 4) (h1 : ∀ p s2 B2, th_go (1, m, f, t) c = some p → th_RM p s2 B2 → Q ad (some (.int 1)) (a0, a1, a2, a3, a4, a5, a6, a7, th_mp ad S A s2 B2 hs)) (h0 : ∀ s2 B2, th_go (1, m, f, t) c = none → Q ad (some (.int 0)) (a0, a1, a2, a3, a4, a5, a6, a7, th_mp ad S A s2 B2 hs)) : pm_C l G m_X12_go [.ref (ad 8 0), .int c] ad (a0, a1, a2, a3, a4, a5, a6, a7, th_mp ad S A s B hs) Q := by
  refine pm_met (by decide) (Nat.le_of_ble_eq_true rfl) ?_
  refine pm_aload_n dX12_go_0 rfl rfl ?_
  refine pm_get fl_RX12_86_12 dX12_go_1 rfl rfl ?_
  rw [h7]
  refine pm_if_ne (tgt := 110) dX12_go_4 (by decide) (fun c_4 => ?_) (fun c_4 => absurd c_4 (by decide))
  refine pm_aload_n dX12_go_110 rfl rfl ?_
  refine pm_get fl_RX12_86_12 dX12_go_111 rfl rfl ?_
  rw [h7]
  refine pm_iconst (v := 2) dX12_go_114 (by decide) ?_
  refine pm_icmp_ne (tgt := 169) dX12_go_115 (by decide) (fun c_115 => ?_) (fun c_115 => absurd c_115 (by decide))
  exact g_go169 h7 h8 hf hm (Or.inl rfl) (fun z => absurd z.1 (by decide)) h1 h0

set_option maxHeartbeats 600000 in
set_option maxRecDepth 100000 in
theorem g_go2 {l : Launch} {G : pm_G} {ad : Nat → Nat → Nat} {a0 a3 a4 a5 a6 a7 : List pm_A} {a1 a2 : Nat → Option pm_A} {S : Nat → Nat} {A : Nat → Nat → Int32} {s : Nat → Int32} {B : Nat → Nat → Int32} {hs : Int64} {Q : pm_T} {m : Nat} {f : Nat → Int32} {t c : Int32} (h7 : s 7 = nI 2) (h8 : s 8 = nI m) (hf : ∀ k, k < m → B 5 k = f k) (hm : m ≤ 4) (hm1 : 1 ≤ m) (h1 : ∀ p s2 B2, th_go (2, m, f, t) c = some p → th_RM p s2 B2 → Q ad (some (.int 1)) (a0, a1, a2, a3, a4, a5, a6, a7, th_mp ad S A s2 B2 hs)) (h0 : ∀ s2 B2, th_go (2, m, f, t) c = none → Q ad (some (.int 0)) (a0, a1, a2, a3, a4, a5, a6, a7, th_mp ad S A s2 B2 hs)) : pm_C l G m_X12_go [.ref (ad 8 0), .int c] ad (a0, a1, a2, a3, a4, a5, a6, a7, th_mp ad S A s B hs) Q := by
  refine pm_met (by decide) (Nat.le_of_ble_eq_true rfl) ?_
  refine pm_aload_n dX12_go_0 rfl rfl ?_
  refine pm_get fl_RX12_86_12 dX12_go_1 rfl rfl ?_
  rw [h7]
  refine pm_if_ne (tgt := 110) dX12_go_4 (by decide) (fun c_4 => ?_) (fun c_4 => absurd c_4 (by decide))
  refine pm_aload_n dX12_go_110 rfl rfl ?_
  refine pm_get fl_RX12_86_12 dX12_go_111 rfl rfl ?_
  rw [h7]
  refine pm_iconst (v := 2) dX12_go_114 (by decide) ?_
  refine pm_icmp_ne (tgt := 169) dX12_go_115 (by decide) (fun c_115 => absurd (rfl) c_115) (fun c_115 => ?_)
  refine pm_iload_n dX12_go_118 rfl rfl ?_
  refine pm_i2l dX12_go_119 ?_
  refine pm_ldc2 kw_1113 dX12_go_120 ?_
  refine pm_ldc2 kw_1114 dX12_go_123 ?_
  refine pm_callS (M2 := m_X12_in) (As := [_, _, _]) ok_X12_in kw_1115 kw_1116 dX12_go_126 rfl rfl (Nat.le_of_ble_eq_true rfl) ⟨⟨Nat.le_of_ble_eq_true rfl, Nat.le_of_ble_eq_true rfl⟩, Nat.le_of_ble_eq_true rfl, Nat.le_of_ble_eq_true rfl⟩ ?_
  refine c_X12_in32 (lo := 48) (hi := 57) rfl rfl (fun u v => ?_) (fun hd => ?_)
  · have hd : th_dg c := ⟨u, v⟩
    refine pm_if_eq (tgt := 169) dX12_go_129 (by decide) (fun c_129 => absurd c_129 (by decide)) (fun c_129 => ?_)
    refine pm_aload_n dX12_go_132 rfl rfl ?_
    refine pm_get fl_RX12_22_12 dX12_go_133 rfl rfl ?_
    refine pm_aload_n dX12_go_136 rfl rfl ?_
    refine pm_get fl_RX12_97_12 dX12_go_137 rfl rfl ?_
    rw [h8]
    refine pm_iconst (v := 1) dX12_go_140 (by decide) ?_
    refine pm_isub dX12_go_141 ?_
    rw [show nI m - 1 = nI (m - 1) from pk_sub (b := 1) hm1]
    refine pm_bipush (v := 10) dX12_go_142 (by decide) ?_
    refine pm_aload_n dX12_go_144 rfl rfl ?_
    refine pm_get fl_RX12_22_12 dX12_go_145 rfl rfl ?_
    refine pm_aload_n dX12_go_148 rfl rfl ?_
    refine pm_get fl_RX12_97_12 dX12_go_149 rfl rfl ?_
    rw [h8]
    refine pm_iconst (v := 1) dX12_go_152 (by decide) ?_
    refine pm_isub dX12_go_153 ?_
    rw [show nI m - 1 = nI (m - 1) from pk_sub (b := 1) hm1]
    refine pm_iald dX12_go_154 rfl (th_in (by omega) (by decide)) ?_
    rw [th_cl (by omega), hf (m - 1) (by omega)]
    refine pm_imul dX12_go_155 ?_
    refine pm_iload_n dX12_go_156 rfl rfl ?_
    refine pm_iadd dX12_go_157 ?_
    refine pm_bipush (v := 48) dX12_go_158 (by decide) ?_
    refine pm_isub dX12_go_160 ?_
    refine pm_iast (w2 := (_, _, _, _, _, _, _, _, [_, _, _, _, _, _, _, _, _, _, _, _, _, _, _, _, _, _, _, _, _, _, _, _])) dX12_go_161 rfl (th_in (by omega) (by decide)) rfl ?_
    rw [th_cl (by omega)]
    refine pm_aload_n dX12_go_162 rfl rfl ?_
    refine pm_iconst (v := 1) dX12_go_163 (by decide) ?_
    refine pm_put (w2 := (_, _, _, _, _, _, _, _, [.inr (_, [_, _, _, _, _, _, _, _, _, _, _, _, _, _, _, _, _, _, _, _, _, _, _, _, _, _, _, _, _, _, _, _, _, _, _, _, _, _, _, _, _, _, _, _]), _, _, _, _, _, _, _, _, _, _, _, _, _, _, _, _, _, _, _, _, _, _, _])) fl_RX12_86_12 fp_12_7 dX12_go_164 rfl rfl rfl (Nat.le_of_ble_eq_true rfl) rfl ?_
    refine pm_iconst (v := 1) dX12_go_167 (by decide) ?_
    refine pm_zret dX12_go_168 rfl rfl rfl rfl ?_
    exact h1 (1, m, upd f (m - 1) (10 * f (m - 1) + c - 48), t) (upd s 7 1) (va_up B 5 (upd (B 5) (m - 1) (10 * f (m - 1) + c - 48))) (th_go2 hd) ⟨rfl, h8, th_uf2 hf, fun e => absurd e (by simp)⟩
  · refine pm_if_eq (tgt := 169) dX12_go_129 (by decide) (fun c_129 => ?_) (fun c_129 => absurd (rfl) c_129)
    exact g_go169 h7 h8 hf hm (Or.inr rfl) (fun z => hd z.2) h1 h0

set_option maxHeartbeats 600000 in
set_option maxRecDepth 100000 in
theorem g_go3 {l : Launch} {G : pm_G} {ad : Nat → Nat → Nat} {a0 a3 a4 a5 a6 a7 : List pm_A} {a1 a2 : Nat → Option pm_A} {S : Nat → Nat} {A : Nat → Nat → Int32} {s : Nat → Int32} {B : Nat → Nat → Int32} {hs : Int64} {Q : pm_T} {m : Nat} {f : Nat → Int32} {t c : Int32} (h7 : s 7 = nI 3) (h8 : s 8 = nI m) (hf : ∀ k, k < m → B 5 k = f k) (h1 : ∀ p s2 B2, th_go (3, m, f, t) c = some p → th_RM p s2 B2 → Q ad (some (.int 1)) (a0, a1, a2, a3, a4, a5, a6, a7, th_mp ad S A s2 B2 hs)) (h0 : ∀ s2 B2, th_go (3, m, f, t) c = none → Q ad (some (.int 0)) (a0, a1, a2, a3, a4, a5, a6, a7, th_mp ad S A s2 B2 hs)) : pm_C l G m_X12_go [.ref (ad 8 0), .int c] ad (a0, a1, a2, a3, a4, a5, a6, a7, th_mp ad S A s B hs) Q := by
  refine pm_met (by decide) (Nat.le_of_ble_eq_true rfl) ?_
  refine pm_aload_n dX12_go_0 rfl rfl ?_
  refine pm_get fl_RX12_86_12 dX12_go_1 rfl rfl ?_
  rw [h7]
  refine pm_if_ne (tgt := 110) dX12_go_4 (by decide) (fun c_4 => ?_) (fun c_4 => absurd c_4 (by decide))
  refine pm_aload_n dX12_go_110 rfl rfl ?_
  refine pm_get fl_RX12_86_12 dX12_go_111 rfl rfl ?_
  rw [h7]
  refine pm_iconst (v := 2) dX12_go_114 (by decide) ?_
  refine pm_icmp_ne (tgt := 169) dX12_go_115 (by decide) (fun c_115 => ?_) (fun c_115 => absurd c_115 (by decide))
  refine pm_aload_n dX12_go_169 rfl rfl ?_
  refine pm_get fl_RX12_86_12 dX12_go_170 rfl rfl ?_
  rw [h7]
  refine pm_iconst (v := 3) dX12_go_173 (by decide) ?_
  refine pm_icmp_ge (tgt := 218) dX12_go_174 (by decide) (fun c_174 => ?_) (fun c_174 => absurd (by decide) c_174)
  refine pm_aload_n dX12_go_218 rfl rfl ?_
  refine pm_iload_n dX12_go_219 rfl rfl ?_
  refine pm_put (w2 := (_, _, _, _, _, _, _, _, [.inr (_, [_, _, _, _, _, _, _, _, _, _, _, _, _, _, _, _, _, _, _, _, _, _, _, _, _, _, _, _, _, _, _, _, _, _, _, _, _, _, _, _, _, _, _, _]), _, _, _, _, _, _, _, _, _, _, _, _, _, _, _, _, _, _, _, _, _, _, _])) fl_RX12_100_12 fp_12_9 dX12_go_220 rfl rfl rfl (Nat.le_of_ble_eq_true rfl) rfl ?_
  refine pm_aload_n dX12_go_223 rfl rfl ?_
  refine pm_get fl_RX12_86_12 dX12_go_224 rfl rfl ?_
  rw [h7]
  refine pm_iconst (v := 3) dX12_go_227 (by decide) ?_
  refine pm_icmp_ne (tgt := 253) dX12_go_228 (by decide) (fun c_228 => absurd (rfl) c_228) (fun c_228 => ?_)
  refine pm_iload_n dX12_go_231 rfl rfl ?_
  refine pm_bipush (v := 116) dX12_go_232 (by decide) ?_
  refine pm_icmp_eq (tgt := 249) dX12_go_234 (by decide) (fun c_234 => ?_) (fun c_234 => ?_)
  · refine pm_iconst (v := 1) dX12_go_249 (by decide) ?_
    refine pm_goto (tgt := 254) dX12_go_250 (by decide) ?_
    refine pm_istore_n (lv2 := [(2, _), (0, _), (1, _)]) dX12_go_254 rfl (Nat.le_of_ble_eq_true rfl) rfl ?_
    refine pm_aload_n dX12_go_255 rfl rfl ?_
    refine pm_iconst (v := 4) dX12_go_256 (by decide) ?_
    refine pm_put (w2 := (_, _, _, _, _, _, _, _, [.inr (_, [_, _, _, _, _, _, _, _, _, _, _, _, _, _, _, _, _, _, _, _, _, _, _, _, _, _, _, _, _, _, _, _, _, _, _, _, _, _, _, _, _, _, _, _]), _, _, _, _, _, _, _, _, _, _, _, _, _, _, _, _, _, _, _, _, _, _, _])) fl_RX12_86_12 fp_12_7 dX12_go_257 rfl rfl rfl (Nat.le_of_ble_eq_true rfl) rfl ?_
    refine pm_iload_n dX12_go_260 rfl rfl ?_
    refine pm_zret dX12_go_261 rfl rfl rfl rfl ?_
    exact h1 (4, m, f, c) (upd (upd s 9 c) 7 4) B (th_go3 (Or.inl c_234)) ⟨rfl, h8, hf, fun _ => rfl⟩
  · refine pm_iload_n dX12_go_237 rfl rfl ?_
    refine pm_bipush (v := 111) dX12_go_238 (by decide) ?_
    refine pm_icmp_eq (tgt := 249) dX12_go_240 (by decide) (fun c_240 => ?_) (fun c_240 => ?_)
    · refine pm_iconst (v := 1) dX12_go_249 (by decide) ?_
      refine pm_goto (tgt := 254) dX12_go_250 (by decide) ?_
      refine pm_istore_n (lv2 := [(2, _), (0, _), (1, _)]) dX12_go_254 rfl (Nat.le_of_ble_eq_true rfl) rfl ?_
      refine pm_aload_n dX12_go_255 rfl rfl ?_
      refine pm_iconst (v := 4) dX12_go_256 (by decide) ?_
      refine pm_put (w2 := (_, _, _, _, _, _, _, _, [.inr (_, [_, _, _, _, _, _, _, _, _, _, _, _, _, _, _, _, _, _, _, _, _, _, _, _, _, _, _, _, _, _, _, _, _, _, _, _, _, _, _, _, _, _, _, _]), _, _, _, _, _, _, _, _, _, _, _, _, _, _, _, _, _, _, _, _, _, _, _])) fl_RX12_86_12 fp_12_7 dX12_go_257 rfl rfl rfl (Nat.le_of_ble_eq_true rfl) rfl ?_
      refine pm_iload_n dX12_go_260 rfl rfl ?_
      refine pm_zret dX12_go_261 rfl rfl rfl rfl ?_
      exact h1 (4, m, f, c) (upd (upd s 9 c) 7 4) B (th_go3 (Or.inr (Or.inl c_240))) ⟨rfl, h8, hf, fun _ => rfl⟩
    · refine pm_iload_n dX12_go_243 rfl rfl ?_
      refine pm_bipush (v := 110) dX12_go_244 (by decide) ?_
      refine pm_icmp_ne (tgt := 253) dX12_go_246 (by decide) (fun c_246 => ?_) (fun c_246 => ?_)
      · refine pm_iconst (v := 0) dX12_go_253 (by decide) ?_
        refine pm_istore_n (lv2 := [(2, _), (0, _), (1, _)]) dX12_go_254 rfl (Nat.le_of_ble_eq_true rfl) rfl ?_
        refine pm_aload_n dX12_go_255 rfl rfl ?_
        refine pm_iconst (v := 4) dX12_go_256 (by decide) ?_
        refine pm_put (w2 := (_, _, _, _, _, _, _, _, [.inr (_, [_, _, _, _, _, _, _, _, _, _, _, _, _, _, _, _, _, _, _, _, _, _, _, _, _, _, _, _, _, _, _, _, _, _, _, _, _, _, _, _, _, _, _, _]), _, _, _, _, _, _, _, _, _, _, _, _, _, _, _, _, _, _, _, _, _, _, _])) fl_RX12_86_12 fp_12_7 dX12_go_257 rfl rfl rfl (Nat.le_of_ble_eq_true rfl) rfl ?_
        refine pm_iload_n dX12_go_260 rfl rfl ?_
        refine pm_zret dX12_go_261 rfl rfl rfl rfl ?_
        exact h0 (upd (upd s 9 c) 7 4) B (th_go3n (fun z => z.elim c_234 (fun z => z.elim c_240 c_246)))
      · refine pm_iconst (v := 1) dX12_go_249 (by decide) ?_
        refine pm_goto (tgt := 254) dX12_go_250 (by decide) ?_
        refine pm_istore_n (lv2 := [(2, _), (0, _), (1, _)]) dX12_go_254 rfl (Nat.le_of_ble_eq_true rfl) rfl ?_
        refine pm_aload_n dX12_go_255 rfl rfl ?_
        refine pm_iconst (v := 4) dX12_go_256 (by decide) ?_
        refine pm_put (w2 := (_, _, _, _, _, _, _, _, [.inr (_, [_, _, _, _, _, _, _, _, _, _, _, _, _, _, _, _, _, _, _, _, _, _, _, _, _, _, _, _, _, _, _, _, _, _, _, _, _, _, _, _, _, _, _, _]), _, _, _, _, _, _, _, _, _, _, _, _, _, _, _, _, _, _, _, _, _, _, _])) fl_RX12_86_12 fp_12_7 dX12_go_257 rfl rfl rfl (Nat.le_of_ble_eq_true rfl) rfl ?_
        refine pm_iload_n dX12_go_260 rfl rfl ?_
        refine pm_zret dX12_go_261 rfl rfl rfl rfl ?_
        exact h1 (4, m, f, c) (upd (upd s 9 c) 7 4) B (th_go3 (Or.inr (Or.inr c_246))) ⟨rfl, h8, hf, fun _ => rfl⟩

set_option maxHeartbeats 600000 in
set_option maxRecDepth 100000 in
theorem g_go4 {l : Launch} {G : pm_G} {ad : Nat → Nat → Nat} {a0 a3 a4 a5 a6 a7 : List pm_A} {a1 a2 : Nat → Option pm_A} {S : Nat → Nat} {A : Nat → Nat → Int32} {s : Nat → Int32} {B : Nat → Nat → Int32} {hs : Int64} {Q : pm_T} {m : Nat} {f : Nat → Int32} {t c : Int32} (h7 : s 7 = nI 4) (h0 : ∀ s2 B2, th_go (4, m, f, t) c = none → Q ad (some (.int 0)) (a0, a1, a2, a3, a4, a5, a6, a7, th_mp ad S A s2 B2 hs)) : pm_C l G m_X12_go [.ref (ad 8 0), .int c] ad (a0, a1, a2, a3, a4, a5, a6, a7, th_mp ad S A s B hs) Q := by
  refine pm_met (by decide) (Nat.le_of_ble_eq_true rfl) ?_
  refine pm_aload_n dX12_go_0 rfl rfl ?_
  refine pm_get fl_RX12_86_12 dX12_go_1 rfl rfl ?_
  rw [h7]
  refine pm_if_ne (tgt := 110) dX12_go_4 (by decide) (fun c_4 => ?_) (fun c_4 => absurd c_4 (by decide))
  refine pm_aload_n dX12_go_110 rfl rfl ?_
  refine pm_get fl_RX12_86_12 dX12_go_111 rfl rfl ?_
  rw [h7]
  refine pm_iconst (v := 2) dX12_go_114 (by decide) ?_
  refine pm_icmp_ne (tgt := 169) dX12_go_115 (by decide) (fun c_115 => ?_) (fun c_115 => absurd c_115 (by decide))
  refine pm_aload_n dX12_go_169 rfl rfl ?_
  refine pm_get fl_RX12_86_12 dX12_go_170 rfl rfl ?_
  rw [h7]
  refine pm_iconst (v := 3) dX12_go_173 (by decide) ?_
  refine pm_icmp_ge (tgt := 218) dX12_go_174 (by decide) (fun c_174 => ?_) (fun c_174 => absurd (by decide) c_174)
  refine pm_aload_n dX12_go_218 rfl rfl ?_
  refine pm_iload_n dX12_go_219 rfl rfl ?_
  refine pm_put (w2 := (_, _, _, _, _, _, _, _, [.inr (_, [_, _, _, _, _, _, _, _, _, _, _, _, _, _, _, _, _, _, _, _, _, _, _, _, _, _, _, _, _, _, _, _, _, _, _, _, _, _, _, _, _, _, _, _]), _, _, _, _, _, _, _, _, _, _, _, _, _, _, _, _, _, _, _, _, _, _, _])) fl_RX12_100_12 fp_12_9 dX12_go_220 rfl rfl rfl (Nat.le_of_ble_eq_true rfl) rfl ?_
  refine pm_aload_n dX12_go_223 rfl rfl ?_
  refine pm_get fl_RX12_86_12 dX12_go_224 rfl rfl ?_
  rw [h7]
  refine pm_iconst (v := 3) dX12_go_227 (by decide) ?_
  refine pm_icmp_ne (tgt := 253) dX12_go_228 (by decide) (fun c_228 => ?_) (fun c_228 => absurd c_228 (by decide))
  refine pm_iconst (v := 0) dX12_go_253 (by decide) ?_
  refine pm_istore_n (lv2 := [(2, _), (0, _), (1, _)]) dX12_go_254 rfl (Nat.le_of_ble_eq_true rfl) rfl ?_
  refine pm_aload_n dX12_go_255 rfl rfl ?_
  refine pm_iconst (v := 4) dX12_go_256 (by decide) ?_
  refine pm_put (w2 := (_, _, _, _, _, _, _, _, [.inr (_, [_, _, _, _, _, _, _, _, _, _, _, _, _, _, _, _, _, _, _, _, _, _, _, _, _, _, _, _, _, _, _, _, _, _, _, _, _, _, _, _, _, _, _, _]), _, _, _, _, _, _, _, _, _, _, _, _, _, _, _, _, _, _, _, _, _, _, _])) fl_RX12_86_12 fp_12_7 dX12_go_257 rfl rfl rfl (Nat.le_of_ble_eq_true rfl) rfl ?_
  refine pm_iload_n dX12_go_260 rfl rfl ?_
  refine pm_zret dX12_go_261 rfl rfl rfl rfl ?_
  exact h0 (upd (upd s 9 c) 7 4) B th_go4

theorem c_X12_go {l : Launch} {G : pm_G} {ad : Nat → Nat → Nat} {a0 a3 a4 a5 a6 a7 : List pm_A} {a1 a2 : Nat → Option pm_A} {S : Nat → Nat} {A : Nat → Nat → Int32} {s : Nat → Int32} {B : Nat → Nat → Int32} {hs : Int64} {Q : pm_T} {p : th_P} {c : Int32} (hp : th_PI p) (hR : th_RM p s B) (h1 : ∀ q s2 B2, th_go p c = some q → th_RM q s2 B2 → Q ad (some (.int 1)) (a0, a1, a2, a3, a4, a5, a6, a7, th_mp ad S A s2 B2 hs)) (h0 : ∀ s2 B2, th_go p c = none → Q ad (some (.int 0)) (a0, a1, a2, a3, a4, a5, a6, a7, th_mp ad S A s2 B2 hs)) : pm_C l G m_X12_go [.ref (ad 8 0), .int c] ad (a0, a1, a2, a3, a4, a5, a6, a7, th_mp ad S A s B hs) Q := by
  obtain ⟨st, m, f, t⟩ := p
  obtain ⟨p1, p2, p3, p4, -⟩ := hp
  obtain ⟨r1, r2, r3, r4⟩ := hR
  have p1 : st ≤ 4 := p1
  have p2 : m ≤ 4 := p2
  rcases (show st = 0 ∨ st = 1 ∨ st = 2 ∨ st = 3 ∨ st = 4 by omega) with rfl | rfl | rfl | rfl | rfl
  · exact g_go0 r1 r2 r3 (p3 rfl) h1 h0
  · exact g_go1 r1 r2 r3 p2 h1 h0
  · exact g_go2 r1 r2 r3 p2 (p4 (by simp)) h1 h0
  · exact g_go3 r1 r2 r3 h1 h0
  · exact g_go4 r1 h0
set_option maxHeartbeats 600000 in
set_option maxRecDepth 100000 in
theorem c_X12_faultOf {l : Launch} {G : pm_G} {ad : Nat → Nat → Nat} {a0 a3 a4 a5 a6 a7 : List pm_A} {a1 a2 : Nat → Option pm_A} {S : Nat → Nat} {A : Nat → Nat → Int32} {s : Nat → Int32} {B : Nat → Nat → Int32} {hs : Int64} {Q : pm_T} (hI : th_I S A) (h1 : ∀ p s2 B2, th_ru A (S 1) = some p → th_RM p s2 B2 → Q ad (some (.int (nI (S 1)))) (a0, a1, a2, a3, a4, a5, a6, a7, th_mp ad S A s2 B2 hs)) (h0 : ∀ k s2 B2, k < S 1 → th_ru A (S 1) = none → th_fp A (S 1) = k → Q ad (some (.int (nI k))) (a0, a1, a2, a3, a4, a5, a6, a7, th_mp ad S A s2 B2 hs)) : pm_C l G m_X12_faultOf [.ref (ad 8 0)] ad (a0, a1, a2, a3, a4, a5, a6, a7, th_mp ad S A s B hs) Q := by
  have h20 := hI.1.1
  refine pm_met (by decide) (Nat.le_of_ble_eq_true rfl) ?_
  refine pm_aload_n dX12_faultOf_0 rfl rfl ?_
  refine pm_iconst (v := 0) dX12_faultOf_1 (by decide) ?_
  refine pm_put (w2 := (_, _, _, _, _, _, _, _, [.inr (_, [_, _, _, _, _, _, _, _, _, _, _, _, _, _, _, _, _, _, _, _, _, _, _, _, _, _, _, _, _, _, _, _, _, _, _, _, _, _, _, _, _, _, _, _]), _, _, _, _, _, _, _, _, _, _, _, _, _, _, _, _, _, _, _, _, _, _, _])) fl_RX12_86_12 fp_12_7 dX12_faultOf_2 rfl rfl rfl (Nat.le_of_ble_eq_true rfl) rfl ?_
  refine pm_aload_n dX12_faultOf_5 rfl rfl ?_
  refine pm_iconst (v := 0) dX12_faultOf_6 (by decide) ?_
  refine pm_put (w2 := (_, _, _, _, _, _, _, _, [.inr (_, [_, _, _, _, _, _, _, _, _, _, _, _, _, _, _, _, _, _, _, _, _, _, _, _, _, _, _, _, _, _, _, _, _, _, _, _, _, _, _, _, _, _, _, _]), _, _, _, _, _, _, _, _, _, _, _, _, _, _, _, _, _, _, _, _, _, _, _])) fl_RX12_97_12 fp_12_8 dX12_faultOf_7 rfl rfl rfl (Nat.le_of_ble_eq_true rfl) rfl ?_
  refine pm_iconst (v := 0) dX12_faultOf_10 (by decide) ?_
  refine pm_istore_n (lv2 := [(1, _), (0, _)]) dX12_faultOf_11 rfl (Nat.le_of_ble_eq_true rfl) rfl ?_
  suffices H : ∀ k, k ≤ S 1 → ∀ p s B, th_ru A k = some p → th_RM p s B → pm_W l G m_X12_faultOf ad 12 [(1, .int (nI k)), (0, .ref (ad 8 0))] [] (a0, a1, a2, a3, a4, a5, a6, a7, th_mp ad S A s B hs) 0 0 Q from H 0 (Nat.zero_le _) (0, 0, fun _ => 0, 0) (upd (upd s 7 0) 8 0) B rfl ⟨rfl, rfl, fun k hk => absurd hk (Nat.not_lt_zero k), fun e => absurd e (by simp)⟩
  refine th_loop _ ?_
  intro k hk kk p s B hp hR
  refine pm_iload_n dX12_faultOf_12 rfl rfl ?_
  refine pm_aload_n dX12_faultOf_13 rfl rfl ?_
  refine pm_get fl_RX12_82_12 dX12_faultOf_14 rfl rfl ?_
  refine pm_icmp_ge (tgt := 39) dX12_faultOf_17 (by decide) (fun c_17 => ?_) (fun c_17 => ?_)
  · refine pm_iload_n dX12_faultOf_39 rfl rfl ?_
    refine pm_iret dX12_faultOf_40 rfl rfl rfl ?_
    have he : k = S 1 := by
      rw [nI_leI (by omega) (by omega)] at c_17
      omega
    subst he
    exact h1 p s B hp hR
  · have hlt : k < S 1 := by
      rw [nI_leI (by omega) (by omega)] at c_17
      omega
    refine pm_aload_n dX12_faultOf_20 rfl rfl ?_
    refine pm_aload_n dX12_faultOf_21 rfl rfl ?_
    refine pm_get fl_RX12_7_12 dX12_faultOf_22 rfl rfl ?_
    refine pm_iload_n dX12_faultOf_25 rfl rfl ?_
    refine pm_iald dX12_faultOf_26 rfl (th_in (by omega) (by decide)) ?_
    rw [th_cl (by omega)]
    refine pm_callV (M2 := m_X12_go) (As := [_]) ok_X12_go (ci := 12) rfl kw_1109 kw_1111 kw_21 dX12_faultOf_27 rfl rfl rfl (Nat.le_of_ble_eq_true rfl) ⟨⟨Nat.le_of_ble_eq_true rfl, Nat.le_of_ble_eq_true rfl⟩, Nat.le_of_ble_eq_true rfl, Nat.le_of_ble_eq_true rfl⟩ ?_
    refine c_X12_go (th_ru_PI k p hp) hR (fun q s2 B2 hg hR2 => ?_) (fun s2 B2 hg => ?_)
    · refine pm_if_eq (tgt := 39) dX12_faultOf_30 (by decide) (fun c_30 => absurd c_30 (by decide)) (fun c_30 => ?_)
      refine pm_iinc (lv2 := [(1, _), (0, _)]) dX12_faultOf_33 rfl (nI_1 k) (Nat.le_of_ble_eq_true rfl) rfl ?_
      refine pm_goto (tgt := 12) dX12_faultOf_36 (by decide) ?_
      refine pm_pick [0, 1] rfl ?_
      exact kk hlt q s2 B2 ((th_ru_s hp).trans hg) hR2
    · refine pm_if_eq (tgt := 39) dX12_faultOf_30 (by decide) (fun c_30 => ?_) (fun c_30 => absurd (rfl) c_30)
      refine pm_iload_n dX12_faultOf_39 rfl rfl ?_
      refine pm_iret dX12_faultOf_40 rfl rfl rfl ?_
      exact h0 k s2 B2 hlt (th_ru_none ((th_ru_s hp).trans hg) _ hlt) (th_fp_k hp ((th_ru_s hp).trans hg) _ hlt)

set_option maxHeartbeats 600000 in
set_option maxRecDepth 100000 in
theorem c_X12_fault {l : Launch} {G : pm_G} {ad : Nat → Nat → Nat} {a0 a3 a4 a5 a6 a7 : List pm_A} {a1 a2 : Nat → Option pm_A} {S : Nat → Nat} {A : Nat → Nat → Int32} {s : Nat → Int32} {B : Nat → Nat → Int32} {hs : Int64} {Q : pm_T} (hI : th_I S A) (hQ : ∀ s2 B2, Q ad (some (.int (nI (th_fp A (S 1))))) (a0, a1, a2, a3, a4, a5, a6, a7, th_mp ad S A s2 B2 hs)) : pm_C l G m_X12_fault [.ref (ad 8 0)] ad (a0, a1, a2, a3, a4, a5, a6, a7, th_mp ad S A s B hs) Q := by
  refine pm_met (by decide) (Nat.le_of_ble_eq_true rfl) ?_
  refine pm_aload_n dX12_fault_0 rfl rfl ?_
  refine pm_callV (M2 := m_X12_faultOf) (As := []) ok_X12_faultOf (ci := 12) rfl kw_1105 kw_1107 kw_20 dX12_fault_1 rfl rfl rfl (Nat.le_of_ble_eq_true rfl) ⟨⟨Nat.le_of_ble_eq_true rfl, Nat.le_of_ble_eq_true rfl⟩, Nat.le_of_ble_eq_true rfl, Nat.le_of_ble_eq_true rfl⟩ ?_
  refine c_X12_faultOf hI (fun p s2 B2 hp hR => ?_) (fun k s2 B2 hk hn hf => ?_)
  · refine pm_iret dX12_fault_4 rfl rfl rfl ?_
    refine th_r ?_ (hQ s2 B2)
    rw [th_fp_all hp]
  · refine pm_iret dX12_fault_4 rfl rfl rfl ?_
    refine th_r ?_ (hQ s2 B2)
    rw [hf]

