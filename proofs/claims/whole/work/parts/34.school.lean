theorem pm_wide {l : Launch} {G : pm_G} {M : pm_M} {ad : Nat → Nat → Nat} {pc : Nat} {lv : List (Nat × Value)} {st : List Value} {w : pm_V} {cs ss : Nat} {Q : pm_T} {k n : Nat} (hc : cs ≤ k) (hs : ss ≤ n) (kk : pm_W l G M ad pc lv st w k n Q) : pm_W l G M ad pc lv st w cs ss Q := fun p e s m args below meth c X H locs ls hR hS hl => W.widen (k := k) (n := n) hc hs (kk p e s m args below meth c X H locs ls hR hS hl)
theorem pm_swap {G : pm_G} {ad ad2 : Nat → Nat → Nat} {w w2 : pm_V} {H : Heap} {g1 k1 g2 k2 : Nat} (b1 : g1 < 9) (b2 : k1 < 64) (b3 : g2 < 9) (b4 : k2 < 64) (hne : ¬ (g1 = g2 ∧ k1 = k2)) (hw : ∀ g k, pm_get? w2 g k = if g = g1 ∧ k = k1 then pm_get? w g2 k2 else if g = g2 ∧ k = k2 then pm_get? w g1 k1 else pm_get? w g k) (ha : ∀ g k, ad2 g k = if g = g1 ∧ k = k1 then ad g2 k2 else if g = g2 ∧ k = k2 then ad g1 k1 else ad g k) (h : pm_R G ad w H) : pm_R G ad2 w2 H := by
  have key : ∀ g k c, pm_get? w2 g k = some c → ∃ g0 k0, pm_get? w g0 k0 = some c ∧ ad2 g k = ad g0 k0 ∧ ((g = g1 ∧ k = k1 ∧ g0 = g2 ∧ k0 = k2) ∨ (g = g2 ∧ k = k2 ∧ g0 = g1 ∧ k0 = k1) ∨ (¬ (g = g1 ∧ k = k1) ∧ ¬ (g = g2 ∧ k = k2) ∧ g0 = g ∧ k0 = k)) := by
    intro g k c hc
    rw [hw] at hc
    rw [ha]
    by_cases e1 : g = g1 ∧ k = k1
    · rw [if_pos e1] at hc
      rw [if_pos e1]
      exact ⟨g2, k2, hc, rfl, Or.inl ⟨e1.1, e1.2, rfl, rfl⟩⟩
    · rw [if_neg e1] at hc
      rw [if_neg e1]
      by_cases e2 : g = g2 ∧ k = k2
      · rw [if_pos e2] at hc
        rw [if_pos e2]
        exact ⟨g1, k1, hc, rfl, Or.inr (Or.inl ⟨e2.1, e2.2, rfl, rfl⟩)⟩
      · rw [if_neg e2] at hc
        rw [if_neg e2]
        exact ⟨g, k, hc, rfl, Or.inr (Or.inr ⟨e1, e2, rfl, rfl⟩)⟩
  refine ⟨fun g k c hc => ?_, fun g k c g' k' c' hc hc' e => ?_⟩
  · obtain ⟨g0, k0, h0, e0, hx⟩ := key g k c hc
    rw [e0]
    refine ⟨(h.1 g0 k0 c h0).1, ?_⟩
    rcases hx with ⟨rfl, rfl, -, -⟩ | ⟨rfl, rfl, -, -⟩ | ⟨-, -, rfl, rfl⟩
    · exact ⟨b1, b2⟩
    · exact ⟨b3, b4⟩
    · exact (h.1 _ _ c h0).2
  · obtain ⟨g0, k0, h0, e0, hx⟩ := key g k c hc
    obtain ⟨g3, k3, h3, e3, hy⟩ := key g' k' c' hc'
    have he : g0 = g3 ∧ k0 = k3 := h.2 _ _ _ _ _ _ h0 h3 (e0.symm.trans (e.trans e3))
    omega
theorem pm_sw31 {a0 a4 a5 a6 a7 a8 : List pm_A} {a1 a2 : Nat → Option pm_A} {x d p q : pm_A} {k : Nat} : ∀ g' k', pm_get? (a0, va_up a1 k (some d), a2, [p, q, x], a4, a5, a6, a7, a8) g' k' = if g' = 3 ∧ k' = 2 then pm_get? (a0, va_up a1 k (some x), a2, [p, q, d], a4, a5, a6, a7, a8) 1 k else if g' = 1 ∧ k' = k then pm_get? (a0, va_up a1 k (some x), a2, [p, q, d], a4, a5, a6, a7, a8) 3 2 else pm_get? (a0, va_up a1 k (some x), a2, [p, q, d], a4, a5, a6, a7, a8) g' k' := fun g' k' => match g' with
  | 1 => by
    rw [if_neg (fun z => absurd z.1 (by decide))]
    by_cases e : k' = k
    · rw [if_pos ⟨rfl, e⟩]
      exact if_pos e
    · rw [if_neg (fun z => e z.2)]
      show va_up a1 k (some d) k' = va_up a1 k (some x) k'
      unfold va_up
      rw [if_neg e, if_neg e]
  | 3 => by
    by_cases e : k' = 2
    · rw [if_pos ⟨rfl, e⟩, e]
      exact (if_pos rfl).symm
    · rw [if_neg (fun z => e z.2), if_neg (fun z => absurd z.1 (by decide))]
      match k', e with
      | 0, _ => rfl
      | 1, _ => rfl
      | 2, e => exact absurd rfl e
      | n + 3, _ => rfl
  | 0 => by
    rw [if_neg (fun z => absurd z.1 (by decide)), if_neg (fun z => absurd z.1 (by decide))]
    rfl
  | 2 => by
    rw [if_neg (fun z => absurd z.1 (by decide)), if_neg (fun z => absurd z.1 (by decide))]
    rfl
  | 4 => by
    rw [if_neg (fun z => absurd z.1 (by decide)), if_neg (fun z => absurd z.1 (by decide))]
    rfl
  | 5 => by
    rw [if_neg (fun z => absurd z.1 (by decide)), if_neg (fun z => absurd z.1 (by decide))]
    rfl
  | 6 => by
    rw [if_neg (fun z => absurd z.1 (by decide)), if_neg (fun z => absurd z.1 (by decide))]
    rfl
  | 7 => by
    rw [if_neg (fun z => absurd z.1 (by decide)), if_neg (fun z => absurd z.1 (by decide))]
    rfl
  | 8 => by
    rw [if_neg (fun z => absurd z.1 (by decide)), if_neg (fun z => absurd z.1 (by decide))]
    rfl
  | n + 9 => by
    rw [if_neg (fun z => absurd z.1 (by omega)), if_neg (fun z => absurd z.1 (by omega))]
    rfl
theorem pm_rel31 {l : Launch} {G : pm_G} {M : pm_M} {ad : Nat → Nat → Nat} {pc : Nat} {lv : List (Nat × Value)} {st : List Value} {cs ss : Nat} {Q : pm_T} {a0 a4 a5 a6 a7 a8 : List pm_A} {a1 a2 : Nat → Option pm_A} {x d p q : pm_A} {k : Nat} (hk : k < 64) (kk : ∀ ad2 : Nat → Nat → Nat, ad2 3 2 = ad 1 k → ad2 1 k = ad 3 2 → (∀ g' k', ¬ (g' = 3 ∧ k' = 2) → ¬ (g' = 1 ∧ k' = k) → ad2 g' k' = ad g' k') → pm_W l G M ad2 pc lv st (a0, va_up a1 k (some d), a2, [p, q, x], a4, a5, a6, a7, a8) cs ss Q) : pm_W l G M ad pc lv st (a0, va_up a1 k (some x), a2, [p, q, d], a4, a5, a6, a7, a8) cs ss Q := by
  have h := kk (fun g' k' => if g' = 3 ∧ k' = 2 then ad 1 k else if g' = 1 ∧ k' = k then ad 3 2 else ad g' k') (if_pos ⟨rfl, rfl⟩) ((if_neg (fun z => absurd z.1 (by decide))).trans (if_pos ⟨rfl, rfl⟩)) (fun g' k' h1 h2 => (if_neg h1).trans (if_neg h2))
  exact pm_rel (fun H hR => pm_swap (g1 := 3) (k1 := 2) (g2 := 1) (k2 := k) (by decide) (by decide) (by decide) hk (fun z => absurd z.1 (by decide)) pm_sw31 (fun g k => rfl) hR) h
/-- the same places, as far as the pictures speak of them -/
def th_same (ad b : Nat → Nat → Nat) (S : Nat → Nat) : Prop := (∀ k, b 0 k = ad 0 k) ∧ (∀ j, j < S 2 → b 1 j = ad 1 j) ∧ (∀ i, i < S 11 → b 2 i = ad 2 i) ∧ b 3 0 = ad 3 0 ∧ b 3 1 = ad 3 1 ∧ (∀ g k, 4 ≤ g → b g k = ad g k)
theorem th_same_r (ad : Nat → Nat → Nat) (S : Nat → Nat) : th_same ad ad S := ⟨fun _ => rfl, fun _ _ => rfl, fun _ _ => rfl, rfl, rfl, fun _ _ _ => rfl⟩
theorem th_rs_ad {ad b : Nat → Nat → Nat} {g n : Nat} (h : ∀ j, j < n → b g j = ad g j) : th_rs b g n = th_rs ad g n := by
  funext j
  unfold th_rs
  by_cases e : j < n
  · rw [if_pos e, if_pos e, h j e]
  · rw [if_neg e, if_neg e]
theorem th_g0_ad {ad b : Nat → Nat → Nat} {S : Nat → Nat} {Y : Nat → Nat → Int32} (h : th_same ad b S) : th_g0 b S Y = th_g0 ad S Y := by
  unfold th_g0
  rw [h.1, h.1, h.1, h.2.2.2.1, th_rs_ad h.2.1, th_rs_ad h.2.2.1, h.2.2.2.2.2 7 0 (by decide), h.2.2.2.2.2 4 0 (by decide), h.2.2.2.2.2 5 0 (by decide), h.2.2.2.2.2 6 0 (by decide)]
theorem th_g2_ad {ad b : Nat → Nat → Nat} {S : Nat → Nat} {A Y : Nat → Nat → Int32} (hI : th_I S A) (h : th_same ad b S) : th_g2 b S A Y = th_g2 ad S A Y := by
  funext i
  unfold th_g2
  by_cases e : i < S 11
  · obtain ⟨-, ⟨sc, hsc, esc⟩, -⟩ := th_nk hI e
    have h3 := hI.2.1.1
    rw [if_pos e, if_pos e, th_nf, th_nf, esc, th_n_nI (by omega), h.2.1 sc hsc]
  · rw [if_neg e, if_neg e]
theorem th_g4_ad {ad b : Nat → Nat → Nat} {S : Nat → Nat} {A : Nat → Nat → Int32} {X : Nat → Int32} {Y : Nat → Nat → Int32} (h : th_same ad b S) : th_g4 b S A X Y = th_g4 ad S A X Y := by
  unfold th_g4
  rw [h.2.2.2.2.2 4 1 (by decide), h.2.2.2.2.2 4 2 (by decide), h.2.2.2.2.2 4 3 (by decide), h.2.2.2.2.2 4 4 (by decide)]
theorem th_g5_ad {ad b : Nat → Nat → Nat} {S : Nat → Nat} {X : Nat → Int32} {F : Nat → Int64} {Hd : Nat → Option Nat} (h : th_same ad b S) : th_g5 b X F Hd = th_g5 ad X F Hd := by
  unfold th_g5
  rw [h.2.2.2.2.2 5 1 (by decide), h.2.2.2.2.2 5 2 (by decide)]
theorem th_g6_ad {ad b : Nat → Nat → Nat} {S : Nat → Nat} {A : Nat → Nat → Int32} {Cs : Nat → Option Nat} (h : th_same ad b S) : th_g6 b S A Cs = th_g6 ad S A Cs := by
  unfold th_g6
  rw [h.2.2.2.2.2 6 1 (by decide), h.2.2.2.2.2 6 2 (by decide), h.2.2.2.2.2 6 3 (by decide)]
theorem th_mp_ad {ad b : Nat → Nat → Nat} {S : Nat → Nat} {A : Nat → Nat → Int32} {s : Nat → Int32} {B : Nat → Nat → Int32} {hs : Int64} {T : Nat → Nat} (h : th_same ad b T) : th_mp b S A s B hs = th_mp ad S A s B hs := by
  unfold th_mp
  rw [h.2.2.2.2.2 8 1 (by decide), h.2.2.2.2.2 8 2 (by decide), h.2.2.2.2.2 8 3 (by decide), h.2.2.2.2.2 8 4 (by decide), h.2.2.2.2.2 8 5 (by decide), h.2.2.2.2.2 8 6 (by decide), h.2.2.2.2.2 8 7 (by decide), h.2.2.2.2.2 8 8 (by decide), h.2.2.2.2.2 8 9 (by decide), h.2.2.2.2.2 8 10 (by decide), h.2.2.2.2.2 8 11 (by decide), h.2.2.2.2.2 8 12 (by decide), h.2.2.2.2.2 8 13 (by decide), h.2.2.2.2.2 8 14 (by decide), h.2.2.2.2.2 8 15 (by decide), h.2.2.2.2.2 8 16 (by decide), h.2.2.2.2.2 8 17 (by decide), h.2.2.2.2.2 8 18 (by decide), h.2.2.2.2.2 8 19 (by decide), h.2.2.2.2.2 8 20 (by decide), h.2.2.2.2.2 8 21 (by decide), h.2.2.2.2.2 8 22 (by decide), h.2.2.2.2.2 8 23 (by decide)]
theorem th_rs_up {ad : Nat → Nat → Nat} {g n : Nat} : va_up (th_rs ad g n) n (some (ad g n)) = th_rs ad g (n + 1) := by
  funext j
  unfold va_up th_rs
  by_cases e : j = n
  · rw [if_pos e, if_pos (by omega), e]
  · rw [if_neg e]
    by_cases h : j < n
    · rw [if_pos h, if_pos (by omega)]
    · rw [if_neg h, if_neg (by omega)]
def th_sc4 (A : Nat → Nat → Int32) (n : Nat) : Option th_P := match th_ru A n with
  | none => none
  | some p => if p.1 = 4 then some p else none
theorem th_sc4_n {A : Nat → Nat → Int32} {n : Nat} (h : ∀ p, th_ru A n = some p → ¬ p.1 = 4) : th_sc4 A n = none := by
  unfold th_sc4
  cases hp : th_ru A n with
  | none => rfl
  | some p => exact if_neg (h p hp)
theorem th_sc4_s {A : Nat → Nat → Int32} {n : Nat} {p : th_P} (hp : th_ru A n = some p) (h : p.1 = 4) : th_sc4 A n = some p := by
  unfold th_sc4
  rw [hp]
  exact if_pos h
def th_tcp (f g : Nat → Int32) (b : Nat) : Nat → Nat → Int32
  | 0 => g
  | k + 1 => upd (th_tcp f g b k) (b + k) (f k)
theorem th_tcp_in {f g : Nat → Int32} {b : Nat} : ∀ n k, k < n → th_tcp f g b n (b + k) = f k := by
  intro n
  induction n with
  | zero => intro k hk; exact absurd hk (Nat.not_lt_zero k)
  | succ n ih =>
    intro k hk
    rw [th_tcp, upd]
    by_cases e : b + k = b + n
    · rw [if_pos e, show k = n by omega]
    · rw [if_neg e]; exact ih k (by omega)
theorem th_tcp_out {f g : Nat → Int32} {b : Nat} : ∀ n q, q < b → th_tcp f g b n q = g q := by
  intro n
  induction n with
  | zero => intro q _; rfl
  | succ n ih =>
    intro q hq
    rw [th_tcp, upd, if_neg (by omega)]
    exact ih q hq
def th_scS (S : Nat → Nat) : Nat → Nat := va_up (va_up S 2 (S 2 + 1)) 1 0
def th_scT (S : Nat → Nat) (A : Nat → Nat → Int32) (p : th_P) : Nat → Nat → Int32 := va_up (va_up (va_up A 2 (th_tcp p.2.2.1 (A 2) (4 * S 2) p.2.1)) 3 (upd (A 3) (S 2) (nI p.2.1))) 4 (upd (A 4) (S 2) p.2.2.2)
def th_schA (S : Nat → Nat) (A : Nat → Nat → Int32) : Int32 := match th_sc4 A (S 1) with
  | none => -103
  | some _ => if S 2 = 3 then -104 else nI (S 2)
def th_schS (S : Nat → Nat) (A : Nat → Nat → Int32) : Nat → Nat := match th_sc4 A (S 1) with
  | none => S
  | some _ => if S 2 = 3 then S else th_scS S
def th_schT (S : Nat → Nat) (A : Nat → Nat → Int32) : Nat → Nat → Int32 := match th_sc4 A (S 1) with
  | none => A
  | some p => if S 2 = 3 then A else th_scT S A p
theorem th_g1_sc {S : Nat → Nat} {A : Nat → Nat → Int32} {p : th_P} (hI : th_I2 S A) (hm : p.2.1 ≤ 4) : th_g1 (th_scS S) (th_scT S A p) = va_up (th_g1 S A) (S 2) (some (.inr (10, [.int (nI (S 2)), .int p.2.2.2, .int (th_cnt p.2.2.1 (-120) p.2.1), .int (th_cnt p.2.2.1 (-121) p.2.1), .int (th_cnt p.2.2.1 (-109) p.2.1), .int (th_cnt p.2.2.1 (-108) p.2.1), .int (th_cnt p.2.2.1 (-104) p.2.1), .int (th_alw p.2.2.1 p.2.1)]))) := by
  funext j
  by_cases e : j = S 2
  · subst e
    rw [show th_g1 (th_scS S) (th_scT S A p) (S 2) = some (.inr (10, th_sf (th_scT S A p) (S 2))) from if_pos (Nat.lt_succ_self _)]
    have e3 : th_n (th_scT S A p 3 (S 2)) = p.2.1 := by
      rw [show th_scT S A p 3 (S 2) = nI p.2.1 from if_pos rfl, th_n_nI (by omega)]
    have e4 : th_scT S A p 4 (S 2) = p.2.2.2 := if_pos rfl
    have et : ∀ k, k < p.2.1 → th_tf (th_scT S A p) (S 2) k = p.2.2.1 k := fun k hk => th_tcp_in p.2.1 k hk
    rw [th_sf, e3, e4, th_cnt_cg _ et, th_cnt_cg _ et, th_cnt_cg _ et, th_cnt_cg _ et, th_cnt_cg _ et, th_alw_cg _ et]
    exact (if_pos rfl).symm
  · rw [show va_up (th_g1 S A) (S 2) _ j = th_g1 S A j from if_neg e]
    by_cases hj : j < S 2
    · obtain ⟨n, hn, he, -⟩ := hI.2 j hj
      have e3 : th_scT S A p 3 j = A 3 j := if_neg e
      have e4 : th_scT S A p 4 j = A 4 j := if_neg e
      have h2 := hI.1
      have en : th_n (A 3 j) = n := by rw [he]; exact th_n_nI (by omega)
      have et : ∀ k, k < n → th_tf (th_scT S A p) j k = th_tf A j k := fun k hk => th_tcp_out p.2.1 _ (by omega)
      rw [show th_g1 (th_scS S) (th_scT S A p) j = some (.inr (10, th_sf (th_scT S A p) j)) from if_pos (Nat.lt_succ_of_lt hj), th_sc_get hj, th_sf, th_sf, e3, e4, en, th_cnt_cg _ et, th_cnt_cg _ et, th_cnt_cg _ et, th_cnt_cg _ et, th_cnt_cg _ et, th_alw_cg _ et]
    · rw [show th_g1 S A j = none from if_neg hj]
      exact if_neg (fun z : j < S 2 + 1 => by omega)
set_option maxHeartbeats 600000 in
set_option maxRecDepth 100000 in
theorem f_X12_school {l : Launch} {G : pm_G} {ad : Nat → Nat → Nat} {a0 a3 a4 a5 a6 a7 : List pm_A} {a1 a2 : Nat → Option pm_A} {S : Nat → Nat} {A : Nat → Nat → Int32} {hs : Int64} {Q : pm_T} {mm : Nat} {f : Nat → Int32} {t : Int32} {s2 : Nat → Int32} {B2 : Nat → Nat → Int32} (h3 : S 2 < 3) (hm : mm ≤ 4) (hR : th_RM (4, mm, f, t) s2 B2) (hQ : ∀ s2 B2, Q ad (some (.int (nI (S 2)))) (a0, a1, a2, a3, a4, a5, a6, a7, th_mp ad (th_scS S) (th_scT S A (4, mm, f, t)) s2 B2 hs)) : pm_W l G m_X12_school ad 33 [(0, .ref (ad 8 0))] [] (a0, a1, a2, a3, a4, a5, a6, a7, th_mp ad S A s2 B2 hs) 0 0 Q := by
  refine pm_iconst (v := 0) dX12_school_33 (by decide) ?_
  refine pm_istore_n (lv2 := [(1, _), (0, _)]) dX12_school_34 rfl (Nat.le_of_ble_eq_true rfl) rfl ?_
  have r2 : s2 8 = nI mm := hR.2.1
  have r3 : ∀ k, k < mm → B2 5 k = f k := hR.2.2.1
  have r4 : s2 9 = t := hR.2.2.2 rfl
  clear hR
  suffices H : ∀ k, k ≤ mm → pm_W l G m_X12_school ad 35 [(1, .int (nI k)), (0, .ref (ad 8 0))] [] (a0, a1, a2, a3, a4, a5, a6, a7, th_mp ad S (va_up A 2 (th_tcp f (A 2) (4 * S 2) k)) s2 B2 hs) 0 0 Q from H 0 (Nat.zero_le _)
  refine th_loop _ ?_
  intro k hk kk
  refine pm_iload_n dX12_school_35 rfl rfl ?_
  refine pm_aload_n dX12_school_36 rfl rfl ?_
  refine pm_get fl_RX12_97_12 dX12_school_37 rfl rfl ?_
  rw [r2]
  refine pm_icmp_ge (tgt := 68) dX12_school_40 (by decide) (fun c_40 => ?_) (fun c_40 => ?_)
  · have he : k = mm := by
      rw [nI_leI (by omega) (by omega)] at c_40
      omega
    subst he
    refine pm_aload_n dX12_school_68 rfl rfl ?_
    refine pm_get fl_RX12_16_12 dX12_school_69 rfl rfl ?_
    refine pm_aload_n dX12_school_72 rfl rfl ?_
    refine pm_get fl_RX12_111_12 dX12_school_73 rfl rfl ?_
    refine pm_aload_n dX12_school_76 rfl rfl ?_
    refine pm_get fl_RX12_97_12 dX12_school_77 rfl rfl ?_
    rw [r2]
    refine pm_iast (w2 := (_, _, _, _, _, _, _, _, [_, _, _, _, _, _, _, _, _, _, _, _, _, _, _, _, _, _, _, _, _, _, _, _])) dX12_school_80 rfl (th_in (by omega) (by decide)) rfl ?_
    rw [th_cl (by omega)]
    refine pm_aload_n dX12_school_81 rfl rfl ?_
    refine pm_get fl_RX12_19_12 dX12_school_82 rfl rfl ?_
    refine pm_aload_n dX12_school_85 rfl rfl ?_
    refine pm_get fl_RX12_111_12 dX12_school_86 rfl rfl ?_
    refine pm_aload_n dX12_school_89 rfl rfl ?_
    refine pm_get fl_RX12_100_12 dX12_school_90 rfl rfl ?_
    rw [r4]
    refine pm_iast (w2 := (_, _, _, _, _, _, _, _, [_, _, _, _, _, _, _, _, _, _, _, _, _, _, _, _, _, _, _, _, _, _, _, _])) dX12_school_93 rfl (th_in (by omega) (by decide)) rfl ?_
    rw [th_cl (by omega)]
    refine pm_aload_n dX12_school_94 rfl rfl ?_
    refine pm_dup dX12_school_95 rfl ?_
    refine pm_get fl_RX12_111_12 dX12_school_96 rfl rfl ?_
    refine pm_iconst (v := 1) dX12_school_99 (by decide) ?_
    refine pm_iadd dX12_school_100 ?_
    rw [nI_1]
    refine pm_put (w2 := (_, _, _, _, _, _, _, _, [.inr (_, [_, _, _, _, _, _, _, _, _, _, _, _, _, _, _, _, _, _, _, _, _, _, _, _, _, _, _, _, _, _, _, _, _, _, _, _, _, _, _, _, _, _, _, _]), _, _, _, _, _, _, _, _, _, _, _, _, _, _, _, _, _, _, _, _, _, _, _])) fl_RX12_111_12 fp_12_2 dX12_school_101 rfl rfl rfl (Nat.le_of_ble_eq_true rfl) rfl ?_
    refine pm_aload_n dX12_school_104 rfl rfl ?_
    refine pm_iconst (v := 0) dX12_school_105 (by decide) ?_
    refine pm_put (w2 := (_, _, _, _, _, _, _, _, [.inr (_, [_, _, _, _, _, _, _, _, _, _, _, _, _, _, _, _, _, _, _, _, _, _, _, _, _, _, _, _, _, _, _, _, _, _, _, _, _, _, _, _, _, _, _, _]), _, _, _, _, _, _, _, _, _, _, _, _, _, _, _, _, _, _, _, _, _, _, _])) fl_RX12_82_12 fp_12_1 dX12_school_106 rfl rfl rfl (Nat.le_of_ble_eq_true rfl) rfl ?_
    refine pm_aload_n dX12_school_109 rfl rfl ?_
    refine pm_get fl_RX12_111_12 dX12_school_110 rfl rfl ?_
    refine pm_iconst (v := 1) dX12_school_113 (by decide) ?_
    refine pm_isub dX12_school_114 ?_
    refine pm_iret dX12_school_115 rfl rfl rfl ?_
    have e : nI (S 2 + 1) - 1 = nI (S 2) := pk_sub (a := S 2 + 1) (b := 1) (by omega)
    refine th_r e.symm ?_
    exact hQ (upd s2 9 t) B2
  · have hlt : k < mm := by
      rw [nI_leI (by omega) (by omega)] at c_40
      omega
    refine pm_aload_n dX12_school_43 rfl rfl ?_
    refine pm_get fl_RX12_13_12 dX12_school_44 rfl rfl ?_
    refine pm_iconst (v := 4) dX12_school_47 (by decide) ?_
    refine pm_aload_n dX12_school_48 rfl rfl ?_
    refine pm_get fl_RX12_111_12 dX12_school_49 rfl rfl ?_
    refine pm_imul dX12_school_52 ?_
    rw [show (4 : Int32) * nI (S 2) = nI (4 * S 2) from pk_mul 4 _]
    refine pm_iload_n dX12_school_53 rfl rfl ?_
    refine pm_iadd dX12_school_54 ?_
    rw [nI_add]
    refine pm_aload_n dX12_school_55 rfl rfl ?_
    refine pm_get fl_RX12_22_12 dX12_school_56 rfl rfl ?_
    refine pm_iload_n dX12_school_59 rfl rfl ?_
    refine pm_iald dX12_school_60 rfl (th_in (by omega) (by decide)) ?_
    rw [th_cl (by omega), r3 k hlt]
    refine pm_iast (w2 := (_, _, _, _, _, _, _, _, [_, _, _, _, _, _, _, _, _, _, _, _, _, _, _, _, _, _, _, _, _, _, _, _])) dX12_school_61 rfl (th_in (by omega) (by decide)) rfl ?_
    rw [th_cl (by omega)]
    refine pm_iinc (lv2 := [(1, _), (0, _)]) dX12_school_62 rfl (nI_1 k) (Nat.le_of_ble_eq_true rfl) rfl ?_
    refine pm_goto (tgt := 35) dX12_school_65 (by decide) ?_
    refine pm_pick [0, 1] rfl ?_
    exact kk hlt

set_option maxHeartbeats 600000 in
set_option maxRecDepth 100000 in
theorem c_X12_school {l : Launch} {G : pm_G} {ad : Nat → Nat → Nat} {a0 a3 a4 a5 a6 a7 : List pm_A} {a1 a2 : Nat → Option pm_A} {S : Nat → Nat} {A : Nat → Nat → Int32} {s : Nat → Int32} {B : Nat → Nat → Int32} {hs : Int64} {Q : pm_T} (hI : th_I S A) (hQ : ∀ s2 B2, Q ad (some (.int (th_schA S A))) (a0, a1, a2, a3, a4, a5, a6, a7, th_mp ad (th_schS S A) (th_schT S A) s2 B2 hs)) : pm_C l G m_X12_school [.ref (ad 8 0)] ad (a0, a1, a2, a3, a4, a5, a6, a7, th_mp ad S A s B hs) Q := by
  have h20 := hI.1.1
  have h3 := hI.2.1.1
  refine pm_met (by decide) (Nat.le_of_ble_eq_true rfl) ?_
  refine pm_aload_n dX12_school_0 rfl rfl ?_
  refine pm_callV (M2 := m_X12_faultOf) (As := []) ok_X12_faultOf (ci := 12) rfl kw_1105 kw_1107 kw_20 dX12_school_1 rfl rfl rfl (Nat.le_of_ble_eq_true rfl) ⟨⟨Nat.le_of_ble_eq_true rfl, Nat.le_of_ble_eq_true rfl⟩, Nat.le_of_ble_eq_true rfl, Nat.le_of_ble_eq_true rfl⟩ ?_
  refine c_X12_faultOf hI (fun p s2 B2 hp hR => ?_) (fun k s2 B2 hk hn hf => ?_)
  · have hpi := th_ru_PI _ p hp
    have hp4 := hpi.1
    refine pm_aload_n dX12_school_4 rfl rfl ?_
    refine pm_get fl_RX12_82_12 dX12_school_5 rfl rfl ?_
    refine pm_icmp_lt (tgt := 19) dX12_school_8 (by decide) (fun c_8 => absurd c_8 (Int32.lt_irrefl)) (fun c_8 => ?_)
    refine pm_aload_n dX12_school_11 rfl rfl ?_
    refine pm_get fl_RX12_86_12 dX12_school_12 rfl rfl ?_
    rw [hR.1]
    refine pm_iconst (v := 4) dX12_school_15 (by decide) ?_
    refine pm_icmp_eq (tgt := 22) dX12_school_16 (by decide) (fun c_16 => ?_) (fun c_16 => ?_)
    · have h4 : p.1 = 4 := (nI_eq (b := 4) (by omega) (by decide)).mp c_16
      refine pm_aload_n dX12_school_22 rfl rfl ?_
      refine pm_get fl_RX12_111_12 dX12_school_23 rfl rfl ?_
      refine pm_iconst (v := 3) dX12_school_26 (by decide) ?_
      refine pm_icmp_ne (tgt := 33) dX12_school_27 (by decide) (fun c_27 => ?_) (fun c_27 => ?_)
      · have e3 : ¬ S 2 = 3 := fun e => c_27 (by rw [e]; rfl)
        obtain ⟨st, mm, f, t⟩ := p
        have h4 : st = 4 := h4
        subst h4
        refine f_X12_school (by omega) hpi.2.1 hR (fun s3 B3 => ?_)
        have hq := hQ s3 B3
        rw [th_schA, th_schS, th_schT, th_sc4_s hp rfl] at hq
        replace hq : Q ad (some (.int (if S 2 = 3 then -104 else nI (S 2)))) (a0, a1, a2, a3, a4, a5, a6, a7, th_mp ad (if S 2 = 3 then S else th_scS S) (if S 2 = 3 then A else th_scT S A (4, mm, f, t)) s3 B3 hs) := hq
        rw [if_neg e3, if_neg e3, if_neg e3] at hq
        exact hq
      · refine pm_bipush (v := (-104)) dX12_school_30 (by decide) ?_
        refine pm_iret dX12_school_32 rfl rfl rfl ?_
        have e3 : S 2 = 3 := (nI_eq (b := 3) (by omega) (by decide)).mp c_27
        have hq := hQ s2 B2
        rw [th_schA, th_schS, th_schT, th_sc4_s hp h4] at hq
        replace hq : Q ad (some (.int (if S 2 = 3 then -104 else nI (S 2)))) (a0, a1, a2, a3, a4, a5, a6, a7, th_mp ad (if S 2 = 3 then S else th_scS S) (if S 2 = 3 then A else th_scT S A p) s2 B2 hs) := hq
        rw [if_pos e3, if_pos e3, if_pos e3] at hq
        exact hq
    · refine pm_bipush (v := (-103)) dX12_school_19 (by decide) ?_
      refine pm_iret dX12_school_21 rfl rfl rfl ?_
      have hq := hQ s2 B2
      rw [th_schA, th_schS, th_schT, th_sc4_n (fun q hq e => by
        cases hp.symm.trans hq
        exact c_16 (by rw [e]; rfl))] at hq
      exact hq
  · have hq := hQ s2 B2
    rw [th_schA, th_schS, th_schT, th_sc4_n (fun p hp => absurd (hn.symm.trans hp) (by simp))] at hq
    refine pm_aload_n dX12_school_4 rfl rfl ?_
    refine pm_get fl_RX12_82_12 dX12_school_5 rfl rfl ?_
    refine pm_icmp_lt (tgt := 19) dX12_school_8 (by decide) (fun c_8 => ?_) (fun c_8 => absurd ((nI_ltI (by omega) (by omega)).mpr hk) c_8)
    refine pm_bipush (v := (-103)) dX12_school_19 (by decide) ?_
    refine pm_iret dX12_school_21 rfl rfl rfl ?_
    exact hq

set_option maxHeartbeats 600000 in
set_option maxRecDepth 100000 in
theorem c_X6_takeSchool {l : Launch} {G : pm_G} {ad : Nat → Nat → Nat} {S : Nat → Nat} {A : Nat → Nat → Int32} {X : Nat → Int32} {Y : Nat → Nat → Int32} {F : Nat → Int64} {Hd Cs : Nat → Option Nat} {m : List pm_A} {y : Nat → Int32} {Q : pm_T} (hI : th_I S A) (hQ : ∀ b, th_same ad b S → Q b (some (.ref (b 1 (S 2)))) (th_g0 b S (va_up Y 1 (fun _ => 0)), va_up (th_g1 S A) (S 2) (some (.inr (10, [.int (nI (S 2)), .int (y 1), .int (y 2), .int (y 3), .int (y 4), .int (y 5), .int (y 6), .int (y 7)]))), th_g2 b S A (va_up Y 1 (fun _ => 0)), th_g3 b (va_up S 1 0) A X (va_up Y 1 (fun _ => 0)), th_g4 b S A X (va_up Y 1 (fun _ => 0)), th_g5 b X F Hd, th_g6 b S A Cs, th_g7 X, m)) : pm_C l G m_X6_takeSchool [.ref (ad 3 0), .int (nI (S 2))] ad (th_cw ad S A X (va_up Y 1 y) F Hd Cs m) Q := by
  have h3 := hI.2.1.1
  refine pm_met (by decide) (Nat.le_of_ble_eq_true rfl) ?_
  refine pm_aload_n dX6_takeSchool_0 rfl rfl ?_
  refine pm_get fl_RX6_18_6 dX6_takeSchool_1 rfl rfl ?_
  refine pm_astore_n (lv2 := [(2, _), (0, _), (1, _)]) dX6_takeSchool_4 rfl (Nat.le_of_ble_eq_true rfl) rfl ?_
  refine pm_aload_n dX6_takeSchool_5 rfl rfl ?_
  refine pm_iload_n dX6_takeSchool_6 rfl rfl ?_
  refine pm_put (w2 := (_, _, _, [_, _, .inr (_, [_, _, _, _, _, _, _, _])], _, _, _, _, _)) fl_RX6_51_10 fp_10_0 dX6_takeSchool_7 rfl rfl rfl (Nat.le_of_ble_eq_true rfl) rfl ?_
  refine pm_aload_n dX6_takeSchool_10 rfl rfl ?_
  refine pm_new2 (g := 1) (k := (S 2)) nw_RX6_15 dX6_takeSchool_11 (by decide) (by omega) (if_neg (Nat.lt_irrefl _)) pm_app1 (Nat.le_of_ble_eq_true rfl) (Nat.le_of_ble_eq_true rfl) (fun b1 h1 => ?_)
  rw [← h1 3 0 (fun z => absurd z.1 (by decide)), ← h1 3 1 (fun z => absurd z.1 (by decide)), ← h1 3 2 (fun z => absurd z.1 (by decide))]
  refine pm_dup dX6_takeSchool_14 rfl ?_
  refine pm_callIN (M2 := m_X10_init) (As := []) ok_X10_init rfl rfl kw_78 kw_79 dX6_takeSchool_15 rfl rfl (Nat.le_of_ble_eq_true rfl) ⟨⟨Nat.le_of_ble_eq_true rfl, Nat.le_of_ble_eq_true rfl⟩, Nat.le_of_ble_eq_true rfl, Nat.le_of_ble_eq_true rfl⟩ ?_
  refine c_X10_init ?_
  refine pm_put (w2 := (_, _, _, [.inr (_, [_, _, _, _, _, _]), _, _], _, _, _, _, _)) fl_RX6_18_6 fp_6_1 dX6_takeSchool_18 rfl rfl rfl (Nat.le_of_ble_eq_true rfl) rfl ?_
  refine pm_aload_n dX6_takeSchool_21 rfl rfl ?_
  refine pm_iconst (v := 0) dX6_takeSchool_22 (by decide) ?_
  refine pm_put (w2 := (_, _, _, [.inr (_, [_, _, _, _, _, _]), _, _], _, _, _, _, _)) fl_RX6_26_6 fp_6_2 dX6_takeSchool_23 rfl rfl rfl (Nat.le_of_ble_eq_true rfl) rfl ?_
  refine pm_rel31 (k := S 2) (by omega) (fun b2 e32 e1S ho => ?_)
  rw [← e1S, ← e32, ← ho 3 0 (fun z => absurd z.2 (by decide)) (fun z => absurd z.1 (by decide)), ← ho 3 1 (fun z => absurd z.2 (by decide)) (fun z => absurd z.1 (by decide))]
  refine pm_aload_n dX6_takeSchool_26 rfl rfl ?_
  refine pm_aret dX6_takeSchool_27 rfl (Or.inr ⟨_, rfl⟩) rfl rfl ?_
  have hs : th_same ad b2 S := ⟨fun k => (ho 0 k (fun z => absurd z.1 (by decide)) (fun z => absurd z.1 (by decide))).trans (h1 0 k (fun z => absurd z.1 (by decide))), fun j hj => (ho 1 j (fun z => absurd z.1 (by decide)) (fun z => by have := z.2; omega)).trans (h1 1 j (fun z => by have := z.2; omega)), fun i hi => (ho 2 i (fun z => absurd z.1 (by decide)) (fun z => absurd z.1 (by decide))).trans (h1 2 i (fun z => absurd z.1 (by decide))), (ho 3 0 (fun z => absurd z.2 (by decide)) (fun z => absurd z.1 (by decide))).trans (h1 3 0 (fun z => absurd z.1 (by decide))), (ho 3 1 (fun z => absurd z.2 (by decide)) (fun z => absurd z.1 (by decide))).trans (h1 3 1 (fun z => absurd z.1 (by decide))), fun g k hg => (ho g k (fun z => by have := z.1; omega) (fun z => by have := z.1; omega)).trans (h1 g k (fun z => by have := z.1; omega))⟩
  have hq := hQ b2 hs
  rw [th_g0_ad hs, th_g2_ad hI hs, th_g4_ad hs, th_g5_ad hs, th_g6_ad hs] at hq
  exact hq

set_option maxHeartbeats 600000 in
set_option maxRecDepth 100000 in
theorem c_X11_school {l : Launch} {G : pm_G} {ad : Nat → Nat → Nat} {S : Nat → Nat} {A : Nat → Nat → Int32} {X : Nat → Int32} {Y : Nat → Nat → Int32} {F : Nat → Int64} {Hd Cs : Nat → Option Nat} {m : List pm_A} {Q : pm_T} (hI : th_I S A) (hQ : ∀ b X2 y2, th_same ad b S → Q b (some (.int (th_schA S A))) (th_cw b (th_schS S A) (th_schT S A) X2 (va_up Y 1 y2) F Hd Cs m)) : pm_C l G m_X11_school [.ref (ad 0 0)] ad (th_cw ad S A X Y F Hd Cs m) Q := by
  have h3 := hI.2.1.1
  refine pm_met (by decide) (Nat.le_of_ble_eq_true rfl) ?_
  refine pm_aload_n dX11_school_0 rfl rfl ?_
  refine pm_get fl_RX11_12_11 dX11_school_1 rfl rfl ?_
  refine pm_callV (M2 := m_X6_isSchool) (As := []) ok_X6_isSchool (ci := 6) rfl kw_344 kw_345 kw_346 dX11_school_4 rfl rfl rfl (Nat.le_of_ble_eq_true rfl) ⟨⟨Nat.le_of_ble_eq_true rfl, Nat.le_of_ble_eq_true rfl⟩, Nat.le_of_ble_eq_true rfl, Nat.le_of_ble_eq_true rfl⟩ ?_
  refine c_X6_isSchool hI (fun p X2 y2 hp h4 hR => ?_) (fun X2 y2 hn => ?_)
  · have hpi := th_ru_PI _ p hp
    refine pm_if_ne (tgt := 13) dX11_school_7 (by decide) (fun c_7 => ?_) (fun c_7 => absurd c_7 (by decide))
    refine pm_aload_n dX11_school_13 rfl rfl ?_
    refine pm_get fl_RX11_82_11 dX11_school_14 rfl rfl ?_
    refine pm_aload_n dX11_school_17 rfl rfl ?_
    refine pm_get fl_RX11_18_11 dX11_school_18 rfl rfl ?_
    refine pm_alen (by decide) dX11_school_21 rfl ?_
    show pm_W _ _ _ _ _ _ (.int (nI 3) :: _) _ _ _ _
    refine pm_icmp_lt (tgt := 28) dX11_school_22 (by decide) (fun c_22 => ?_) (fun c_22 => ?_)
    · have hlt : S 2 < 3 := (nI_ltI (by omega) (by decide)).mp c_22
      have e3 : ¬ S 2 = 3 := by omega
      refine pm_aload_n dX11_school_28 rfl rfl ?_
      refine pm_get fl_RX11_12_11 dX11_school_29 rfl rfl ?_
      refine pm_aload_n dX11_school_32 rfl rfl ?_
      refine pm_get fl_RX11_82_11 dX11_school_33 rfl rfl ?_
      refine pm_callV (M2 := m_X6_takeSchool) (As := [_]) ok_X6_takeSchool (ci := 6) rfl kw_349 kw_350 kw_351 dX11_school_36 rfl rfl rfl (Nat.le_of_ble_eq_true rfl) ⟨⟨Nat.le_of_ble_eq_true rfl, Nat.le_of_ble_eq_true rfl⟩, Nat.le_of_ble_eq_true rfl, Nat.le_of_ble_eq_true rfl⟩ ?_
      refine c_X6_takeSchool hI (fun b hs => ?_)
      rw [← hs.1 0]
      refine pm_astore_n (lv2 := [(1, _), (0, _)]) dX11_school_39 rfl (Nat.le_of_ble_eq_true rfl) rfl ?_
      refine pm_aload_n dX11_school_40 rfl rfl ?_
      refine pm_get fl_RX11_18_11 dX11_school_41 rfl rfl ?_
      refine pm_aload_n dX11_school_44 rfl rfl ?_
      refine pm_get fl_RX11_82_11 dX11_school_45 rfl rfl ?_
      refine pm_aload_n dX11_school_48 rfl rfl ?_
      refine pm_aastS (w2 := ([_, _, _, _], _, _, _, _, _, _, _, _)) dX11_school_49 rfl (show pm_get? _ 1 (S 2) = _ from if_pos rfl) (th_in hlt (by decide)) rfl ?_
      rw [th_cl (by omega), th_rs_up]
      refine pm_aload_n dX11_school_50 rfl rfl ?_
      refine pm_dup dX11_school_51 rfl ?_
      refine pm_get fl_RX11_82_11 dX11_school_52 rfl rfl ?_
      refine pm_iconst (v := 1) dX11_school_55 (by decide) ?_
      refine pm_iadd dX11_school_56 ?_
      rw [nI_1]
      refine pm_put (w2 := ([.inr (_, [_, _, _, _, _, _, _, _, _, _, _, _]), _, _, _], _, _, _, _, _, _, _, _)) fl_RX11_82_11 fp_11_8 dX11_school_57 rfl rfl rfl (Nat.le_of_ble_eq_true rfl) rfl ?_
      refine pm_aload_n dX11_school_60 rfl rfl ?_
      refine pm_get fl_RX11_89_10 dX11_school_61 (show pm_get? _ 1 (S 2) = _ from if_pos rfl) rfl ?_
      refine pm_iret dX11_school_64 rfl rfl rfl ?_
      have hq := hQ b X2 (fun _ => 0) hs
      rw [th_schA, th_schS, th_schT, th_sc4_s hp h4] at hq
      replace hq : Q b (some (.int (if S 2 = 3 then -104 else nI (S 2)))) (th_cw b (if S 2 = 3 then S else th_scS S) (if S 2 = 3 then A else th_scT S A p) X2 (va_up Y 1 (fun _ => 0)) F Hd Cs m) := hq
      rw [if_neg e3, if_neg e3, if_neg e3] at hq
      rw [th_cw, th_g1_sc hI.2.1 hpi.2.1] at hq
      obtain ⟨-, -, -, ⟨r2, r3, r4, r5, r6, r7⟩, r8⟩ := hR
      rw [r2, r3, r4, r5, r6, r7, r8 h4]
      exact hq
    · refine pm_wide (k := 1) (n := 8) (Nat.le_of_ble_eq_true rfl) (Nat.le_of_ble_eq_true rfl) ?_
      refine pm_bipush (v := (-104)) dX11_school_25 (by decide) ?_
      refine pm_iret dX11_school_27 rfl rfl rfl ?_
      have e3 : S 2 = 3 := by
        rw [nI_ltI (by omega) (by decide)] at c_22
        omega
      have hq := hQ ad X2 y2 (th_same_r ad S)
      rw [th_schA, th_schS, th_schT, th_sc4_s hp h4] at hq
      replace hq : Q ad (some (.int (if S 2 = 3 then -104 else nI (S 2)))) (th_cw ad (if S 2 = 3 then S else th_scS S) (if S 2 = 3 then A else th_scT S A p) X2 (va_up Y 1 y2) F Hd Cs m) := hq
      rw [if_pos e3, if_pos e3, if_pos e3] at hq
      exact hq
  · have hq := hQ ad X2 y2 (th_same_r ad S)
    rw [th_schA, th_schS, th_schT, th_sc4_n hn] at hq
    refine pm_if_ne (tgt := 13) dX11_school_7 (by decide) (fun c_7 => absurd (rfl) c_7) (fun c_7 => ?_)
    refine pm_wide (k := 1) (n := 8) (Nat.le_of_ble_eq_true rfl) (Nat.le_of_ble_eq_true rfl) ?_
    refine pm_bipush (v := (-103)) dX11_school_10 (by decide) ?_
    refine pm_iret dX11_school_12 rfl rfl rfl ?_
    exact hq

