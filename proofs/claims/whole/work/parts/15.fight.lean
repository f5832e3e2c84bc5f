def th_mf (ad : Nat → Nat → Nat) (S : Nat → Nat) (A : Nat → Nat → Int32) (s : Nat → Int32) (B : Nat → Nat → Int32) (hs : Int64) (sd st tg ca cb : Int32) : List pm_A :=
  [.inr (12, [.ref (ad 8 1), .int (nI (S 1)), .int (nI (S 2)), .ref (ad 8 2), .ref (ad 8 3), .ref (ad 8 4), .int (nI (S 6)), .int (s 7), .int (s 8), .int (s 9), .ref (ad 8 5), .int (nI (S 11)), .ref (ad 8 6), .ref (ad 8 7), .ref (ad 8 8), .ref (ad 8 9), .ref (ad 8 10), .ref (ad 8 11), .ref (ad 8 12), .ref (ad 8 13), .ref (ad 8 14), .int sd, .int st, .int tg, .int ca, .int cb, .int (nI (S 26)), .ref (ad 8 15), .ref (ad 8 16), .ref (ad 8 17), .int (s 30), .int (s 31), .ref (ad 8 18), .int (s 33), .int (nI (S 34)), .ref (ad 8 19), .ref (ad 8 20), .ref (ad 8 21), .ref (ad 8 22), .ref (ad 8 23), .int (nI (S 40)), .int (nI (S 41)), .int (nI (S 42)), .long hs]),
   .inl (0, 20, .inl (A 1)),
   .inl (0, 12, .inl (A 2)),
   .inl (0, 3, .inl (A 3)),
   .inl (0, 3, .inl (A 4)),
   .inl (0, 4, .inl (B 5)),
   .inl (0, 8, .inl (A 6)),
   .inl (0, 8, .inl (A 7)),
   .inl (0, 8, .inl (A 8)),
   .inl (0, 8, .inl (A 9)),
   .inl (0, 8, .inl (A 10)),
   .inl (0, 8, .inl (A 11)),
   .inl (0, 8, .inl (A 12)),
   .inl (2, 8, .inl (A 13)),
   .inl (0, 8, .inl (A 14)),
   .inl (0, 10, .inl (A 15)),
   .inl (0, 10, .inl (A 16)),
   .inl (0, 8, .inl (B 17)),
   .inl (0, 6, .inl (B 18)),
   .inl (0, 8, .inl (A 19)),
   .inl (0, 8, .inl (A 20)),
   .inl (0, 8, .inl (A 21)),
   .inl (0, 32, .inl (A 22)),
   .inl (0, 20, .inl (A 23))]
theorem th_lte {a b c : Int32} (h : a < b) (e : b = c) : a < c := e ▸ h
def th_nx (x : Int32) : Int32 := (1103515245 * x + 12345) &&& 2147483647
def th_dr (x d : Int32) : Int32 := x / 65536 - x / 65536 / d * d
def th_cm (v : Int32) : Int32 := if 1 ≤ v then (if v ≤ 95 then v else 95) else 1
def th_ns (lt fa : Bool) (t : Int32) : Bool := if t = 116 then fa else if t = 111 then !fa else lt
def th_ft (ha hb ta tb : Int32) (lt : Bool) : Nat → Nat → Bool → Int32 → Int32 → Int32 → Int32 → Nat × Int32 × Nat × Int32 × Int32 × Int32
  | 0, k, _, sd, tg, ca, cb => (0, sd, k, tg, ca, cb)
  | n + 1, k, fa, sd, tg, ca, cb =>
    if th_dr (th_nx sd) 10 < 2 then th_ft ha hb ta tb lt n (k + 1) (th_ns lt fa (if fa then ta else tb)) (th_nx sd) (tg + 1) ca cb
    else if th_dr (th_nx (th_nx sd)) 100 < th_cm (15 + 5 * ((if fa then ha else hb) - (if fa then hb else ha)) + 4 * (if fa then cb else ca)) then ((if fa then 1 else 2), th_nx (th_nx sd), k + 1, tg, ca, cb)
    else th_ft ha hb ta tb lt n (k + 1) (!fa) (th_nx (th_nx sd)) tg (if fa then ca else ca + 1) (if fa then cb + 1 else cb)
theorem th_nx64 (x : Int32) : (((1103515245 : Int64) * x.toInt64 + 12345) &&& 2147483647).toInt32 = th_nx x := by simp [th_nx]
def th_wn (a b w : Nat) : Int32 := if w = 0 then -1 else if w = 1 then nI a else nI b
def th_fs (s : Nat → Int32) (sd : Int32) (k : Nat) (tg ca cb : Int32) : Nat → Int32 := upd (upd (upd (upd (upd s 21 sd) 22 (nI k)) 23 tg) 24 ca) 25 cb
theorem th_fta {ha hb ta tb sd tg ca cb : Int32} {lt fa : Bool} {n k : Nat} (h : th_dr (th_nx sd) 10 < 2) : th_ft ha hb ta tb lt (n + 1) k fa sd tg ca cb = th_ft ha hb ta tb lt n (k + 1) (th_ns lt fa (if fa then ta else tb)) (th_nx sd) (tg + 1) ca cb := by
  rw [th_ft, if_pos h]
theorem th_ftw {ha hb ta tb sd tg ca cb : Int32} {lt fa : Bool} {n k : Nat} (h : ¬ th_dr (th_nx sd) 10 < 2) (h2 : th_dr (th_nx (th_nx sd)) 100 < th_cm (15 + 5 * ((if fa then ha else hb) - (if fa then hb else ha)) + 4 * (if fa then cb else ca))) : th_ft ha hb ta tb lt (n + 1) k fa sd tg ca cb = ((if fa then 1 else 2), th_nx (th_nx sd), k + 1, tg, ca, cb) := by
  rw [th_ft, if_neg h, if_pos h2]
theorem th_ftm {ha hb ta tb sd tg ca cb : Int32} {lt fa : Bool} {n k : Nat} (h : ¬ th_dr (th_nx sd) 10 < 2) (h2 : ¬ th_dr (th_nx (th_nx sd)) 100 < th_cm (15 + 5 * ((if fa then ha else hb) - (if fa then hb else ha)) + 4 * (if fa then cb else ca))) : th_ft ha hb ta tb lt (n + 1) k fa sd tg ca cb = th_ft ha hb ta tb lt n (k + 1) (!fa) (th_nx (th_nx sd)) tg (if fa then ca else ca + 1) (if fa then cb + 1 else cb) := by
  rw [th_ft, if_neg h, if_neg h2]
theorem th_fwt {ha hb ta tb sd tg ca cb : Int32} {lt : Bool} {n k : Nat} (h : ¬ th_dr (th_nx sd) 10 < 2) (h2 : th_dr (th_nx (th_nx sd)) 100 < th_cm (15 + 5 * (ha - hb) + 4 * cb)) : th_ft ha hb ta tb lt (n + 1) k true sd tg ca cb = (1, th_nx (th_nx sd), k + 1, tg, ca, cb) := th_ftw (fa := true) h h2
theorem th_fwf {ha hb ta tb sd tg ca cb : Int32} {lt : Bool} {n k : Nat} (h : ¬ th_dr (th_nx sd) 10 < 2) (h2 : th_dr (th_nx (th_nx sd)) 100 < th_cm (15 + 5 * (hb - ha) + 4 * ca)) : th_ft ha hb ta tb lt (n + 1) k false sd tg ca cb = (2, th_nx (th_nx sd), k + 1, tg, ca, cb) := th_ftw (fa := false) h h2
theorem th_fmt {ha hb ta tb sd tg ca cb : Int32} {lt : Bool} {n k : Nat} (h : ¬ th_dr (th_nx sd) 10 < 2) (h2 : ¬ th_dr (th_nx (th_nx sd)) 100 < th_cm (15 + 5 * (ha - hb) + 4 * cb)) : th_ft ha hb ta tb lt (n + 1) k true sd tg ca cb = th_ft ha hb ta tb lt n (k + 1) false (th_nx (th_nx sd)) tg ca (cb + 1) := th_ftm (fa := true) h h2
theorem th_fmf {ha hb ta tb sd tg ca cb : Int32} {lt : Bool} {n k : Nat} (h : ¬ th_dr (th_nx sd) 10 < 2) (h2 : ¬ th_dr (th_nx (th_nx sd)) 100 < th_cm (15 + 5 * (hb - ha) + 4 * ca)) : th_ft ha hb ta tb lt (n + 1) k false sd tg ca cb = th_ft ha hb ta tb lt n (k + 1) true (th_nx (th_nx sd)) tg (ca + 1) cb := th_ftm (fa := false) h h2
theorem th_fat {ha hb ta tb sd tg ca cb : Int32} {lt : Bool} {n k : Nat} (h : th_dr (th_nx sd) 10 < 2) : th_ft ha hb ta tb lt (n + 1) k true sd tg ca cb = th_ft ha hb ta tb lt n (k + 1) (th_ns lt true ta) (th_nx sd) (tg + 1) ca cb := th_fta (fa := true) h
theorem th_faf {ha hb ta tb sd tg ca cb : Int32} {lt : Bool} {n k : Nat} (h : th_dr (th_nx sd) 10 < 2) : th_ft ha hb ta tb lt (n + 1) k false sd tg ca cb = th_ft ha hb ta tb lt n (k + 1) (th_ns lt false tb) (th_nx sd) (tg + 1) ca cb := th_fta (fa := false) h
theorem c_X12_hardF {l : Launch} {G : pm_G} {ad : Nat → Nat → Nat} {a0 a3 a4 a5 a6 a7 : List pm_A} {a1 a2 : Nat → Option pm_A} {S : Nat → Nat} {A : Nat → Nat → Int32} {s : Nat → Int32} {B : Nat → Nat → Int32} {hs : Int64} {Q : pm_T} {sd st tg ca cb : Int32} {i kd : Nat} (hi : i < 8) (hk : kd ≤ 4) (he : A 6 i = nI kd) (hQ : Q ad (some (.int (pm_hd kd (A 8 i)))) (a0, a1, a2, a3, a4, a5, a6, a7, th_mf ad S A s B hs sd st tg ca cb)) : pm_C l G m_X12_hard [.ref (ad 8 0), .int (nI i)] ad (a0, a1, a2, a3, a4, a5, a6, a7, th_mf ad S A s B hs sd st tg ca cb) Q := c_X12_hard (s := upd (upd (upd (upd (upd s 21 sd) 22 st) 23 tg) 24 ca) 25 cb) hi hk he hQ
set_option maxHeartbeats 600000 in
set_option maxRecDepth 100000 in
theorem c_X12_draw {l : Launch} {G : pm_G} {ad : Nat → Nat → Nat} {a0 a3 a4 a5 a6 a7 : List pm_A} {a1 a2 : Nat → Option pm_A} {S : Nat → Nat} {A : Nat → Nat → Int32} {s : Nat → Int32} {B : Nat → Nat → Int32} {hs : Int64} {Q : pm_T} {sd st tg ca cb d : Int32} (hd : ¬ d = 0) (hQ : Q ad (some (.int (th_dr (th_nx sd) d))) (a0, a1, a2, a3, a4, a5, a6, a7, th_mf ad S A s B hs (th_nx sd) st tg ca cb)) : pm_C l G m_X12_draw [.ref (ad 8 0), .int d] ad (a0, a1, a2, a3, a4, a5, a6, a7, th_mf ad S A s B hs sd st tg ca cb) Q := by
  refine pm_met (by decide) (Nat.le_of_ble_eq_true rfl) ?_
  refine pm_aload_n dX12_draw_0 rfl rfl ?_
  refine pm_ldc2 kw_1198 dX12_draw_1 ?_
  refine pm_aload_n dX12_draw_4 rfl rfl ?_
  refine pm_get fl_RX12_165_12 dX12_draw_5 rfl rfl ?_
  refine pm_i2l dX12_draw_8 ?_
  refine pm_lmul dX12_draw_9 ?_
  refine pm_ldc2 kw_1199 dX12_draw_10 ?_
  refine pm_ladd dX12_draw_13 ?_
  refine pm_ldc2 kw_1200 dX12_draw_14 ?_
  refine pm_land dX12_draw_17 ?_
  refine pm_l2i dX12_draw_18 ?_
  rw [th_nx64]
  refine pm_put (w2 := (_, _, _, _, _, _, _, _, [.inr (_, [_, _, _, _, _, _, _, _, _, _, _, _, _, _, _, _, _, _, _, _, _, _, _, _, _, _, _, _, _, _, _, _, _, _, _, _, _, _, _, _, _, _, _, _]), _, _, _, _, _, _, _, _, _, _, _, _, _, _, _, _, _, _, _, _, _, _, _])) fl_RX12_165_12 fp_12_21 dX12_draw_19 rfl rfl rfl (Nat.le_of_ble_eq_true rfl) rfl ?_
  refine pm_aload_n dX12_draw_22 rfl rfl ?_
  refine pm_get fl_RX12_165_12 dX12_draw_23 rfl rfl ?_
  refine pm_ldc kw_1201 dX12_draw_26 ?_
  refine pm_idiv dX12_draw_28 (by decide) ?_
  refine pm_iload_n dX12_draw_29 rfl rfl ?_
  refine pm_irem dX12_draw_30 (hd) ?_
  refine pm_iret dX12_draw_31 rfl rfl rfl ?_
  exact hQ

def th_FQ (ad : Nat → Nat → Nat) (a0 a3 a4 a5 a6 a7 : List pm_A) (a1 a2 : Nat → Option pm_A) (S : Nat → Nat) (A : Nat → Nat → Int32) (s : Nat → Int32) (B : Nat → Nat → Int32) (hs : Int64) (Q : pm_T) (a b : Nat) (r : Nat × Int32 × Nat × Int32 × Int32 × Int32) : Prop := Q ad (some (.int (th_wn a b (r).1))) (a0, a1, a2, a3, a4, a5, a6, a7, th_mf ad S A s B hs (r).2.1 (nI (r).2.2.1) (r).2.2.2.1 (r).2.2.2.2.1 (r).2.2.2.2.2)
set_option maxHeartbeats 600000 in
set_option maxRecDepth 100000 in
theorem e_X12_fought {l : Launch} {G : pm_G} {ad : Nat → Nat → Nat} {a0 a3 a4 a5 a6 a7 : List pm_A} {a1 a2 : Nat → Option pm_A} {S : Nat → Nat} {A : Nat → Nat → Int32} {s : Nat → Int32} {B : Nat → Nat → Int32} {hs : Int64} {Q : pm_T} {a b ka kb sa sb : Nat} {sd0 : Int32} (ha : a < 8) (hb : b < 8) (hne : a ≠ b) (hka : ka ≤ 4) (hkb : kb ≤ 4) (eka : A 6 a = nI ka) (ekb : A 6 b = nI kb) (hsa : sa < 3) (hsb : sb < 3) (esa : A 7 a = nI sa) (esb : A 7 b = nI sb) {now : Nat} {sd tg ca cb : Int32} (hQ : th_FQ ad a0 a3 a4 a5 a6 a7 a1 a2 S A s B hs Q a b (0, sd, 50, tg, ca, cb)) : pm_W l G m_X12_fought ad 38 [(4, .int (nI now)), (0, .ref (ad 8 0)), (1, .int (nI a)), (2, .int (nI b)), (3, .int sd0)] [] (a0, a1, a2, a3, a4, a5, a6, a7, th_mf ad S A s B hs sd (nI 50) tg ca cb) 0 0 Q := by
  refine pm_aload_n dX12_fought_38 rfl rfl ?_
  refine pm_get fl_RX12_173_12 dX12_fought_39 rfl rfl ?_
  refine pm_bipush (v := 50) dX12_fought_42 (by decide) ?_
  refine pm_icmp_ge (tgt := 270) dX12_fought_44 (by decide) (fun c_44 => ?_) (fun c_44 => absurd (show (50 : Int32) ≤ nI 50 from by decide) c_44)
  refine pm_iconst (v := (-1)) dX12_fought_270 (by decide) ?_
  refine pm_iret dX12_fought_271 rfl rfl rfl ?_
  exact hQ

set_option maxHeartbeats 600000 in
set_option maxRecDepth 100000 in
theorem b_X12_fought_true {l : Launch} {G : pm_G} {ad : Nat → Nat → Nat} {a0 a3 a4 a5 a6 a7 : List pm_A} {a1 a2 : Nat → Option pm_A} {S : Nat → Nat} {A : Nat → Nat → Int32} {s : Nat → Int32} {B : Nat → Nat → Int32} {hs : Int64} {Q : pm_T} {a b ka kb sa sb : Nat} {sd0 : Int32} (ha : a < 8) (hb : b < 8) (hne : a ≠ b) (hka : ka ≤ 4) (hkb : kb ≤ 4) (eka : A 6 a = nI ka) (ekb : A 6 b = nI kb) (hsa : sa < 3) (hsb : sb < 3) (esa : A 7 a = nI sa) (esb : A 7 b = nI sb) {n k : Nat} {sd tg ca cb : Int32} (hk : k < 50) (ih : ∀ (fa : Bool) (sd tg ca cb : Int32), th_FQ ad a0 a3 a4 a5 a6 a7 a1 a2 S A s B hs Q a b (th_ft (pm_hd ka (A 8 a)) (pm_hd kb (A 8 b)) (A 4 sa) (A 4 sb) (decide (a < b)) n (k + 1) fa sd tg ca cb) → pm_W l G m_X12_fought ad 38 [(4, .int (nI (if fa then a else b))), (0, .ref (ad 8 0)), (1, .int (nI a)), (2, .int (nI b)), (3, .int sd0)] [] (a0, a1, a2, a3, a4, a5, a6, a7, th_mf ad S A s B hs sd (nI (k + 1)) tg ca cb) 0 0 Q) (hQ : th_FQ ad a0 a3 a4 a5 a6 a7 a1 a2 S A s B hs Q a b (th_ft (pm_hd ka (A 8 a)) (pm_hd kb (A 8 b)) (A 4 sa) (A 4 sb) (decide (a < b)) (n + 1) k true sd tg ca cb)) : pm_W l G m_X12_fought ad 38 [(4, .int (nI a)), (0, .ref (ad 8 0)), (1, .int (nI a)), (2, .int (nI b)), (3, .int sd0)] [] (a0, a1, a2, a3, a4, a5, a6, a7, th_mf ad S A s B hs sd (nI k) tg ca cb) 0 0 Q := by
  refine pm_aload_n dX12_fought_38 rfl rfl ?_
  refine pm_get fl_RX12_173_12 dX12_fought_39 rfl rfl ?_
  refine pm_bipush (v := 50) dX12_fought_42 (by decide) ?_
  rw [show (50 : Int32) = nI 50 from rfl]
  refine pm_icmp_ge (tgt := 270) dX12_fought_44 (by decide) (fun c_44 => absurd c_44 (show ¬ nI 50 ≤ nI k from by rw [nI_leI (by decide) (by omega)]; omega)) (fun c_44 => ?_)
  refine pm_iload dX12_fought_47 rfl ?_
  refine pm_iload_n dX12_fought_49 rfl rfl ?_
  refine pm_icmp_ne (tgt := 57) dX12_fought_50 (by decide) (fun c_50 => absurd (rfl) c_50) (fun c_50 => ?_)
  refine pm_iload_n dX12_fought_53 rfl rfl ?_
  refine pm_goto (tgt := 58) dX12_fought_54 (by decide) ?_
  refine pm_istore (lv2 := [(5, _), (4, _), (0, _), (1, _), (2, _), (3, _)]) dX12_fought_58 (Nat.le_of_ble_eq_true rfl) rfl ?_
  refine pm_aload_n dX12_fought_60 rfl rfl ?_
  refine pm_dup dX12_fought_61 rfl ?_
  refine pm_get fl_RX12_173_12 dX12_fought_62 rfl rfl ?_
  refine pm_iconst (v := 1) dX12_fought_65 (by decide) ?_
  refine pm_iadd dX12_fought_66 ?_
  rw [nI_1]
  refine pm_put (w2 := (_, _, _, _, _, _, _, _, [.inr (_, [_, _, _, _, _, _, _, _, _, _, _, _, _, _, _, _, _, _, _, _, _, _, _, _, _, _, _, _, _, _, _, _, _, _, _, _, _, _, _, _, _, _, _, _]), _, _, _, _, _, _, _, _, _, _, _, _, _, _, _, _, _, _, _, _, _, _, _])) fl_RX12_173_12 fp_12_22 dX12_fought_67 rfl rfl rfl (Nat.le_of_ble_eq_true rfl) rfl ?_
  refine pm_aload_n dX12_fought_70 rfl rfl ?_
  refine pm_bipush (v := 10) dX12_fought_71 (by decide) ?_
  refine pm_callV (M2 := m_X12_draw) (As := [_]) ok_X12_draw (ci := 12) rfl kw_1194 kw_1196 kw_31 dX12_fought_73 rfl rfl rfl (Nat.le_of_ble_eq_true rfl) ⟨⟨Nat.le_of_ble_eq_true rfl, Nat.le_of_ble_eq_true rfl⟩, Nat.le_of_ble_eq_true rfl, Nat.le_of_ble_eq_true rfl⟩ ?_
  refine c_X12_draw (sd := sd) (st := nI (k + 1)) (tg := tg) (ca := ca) (cb := cb) (by decide) ?_
  refine pm_iconst (v := 2) dX12_fought_76 (by decide) ?_
  refine pm_icmp_ge (tgt := 143) dX12_fought_77 (by decide) (fun c_77 => ?_) (fun c_77 => ?_)
  · refine pm_bipush (v := 15) dX12_fought_143 (by decide) ?_
    refine pm_iconst (v := 5) dX12_fought_145 (by decide) ?_
    refine pm_aload_n dX12_fought_146 rfl rfl ?_
    refine pm_iload dX12_fought_147 rfl ?_
    refine pm_callV (M2 := m_X12_hard) (As := [_]) ok_X12_hard (ci := 12) rfl kw_1166 kw_1168 kw_26 dX12_fought_149 rfl rfl rfl (Nat.le_of_ble_eq_true rfl) ⟨⟨Nat.le_of_ble_eq_true rfl, Nat.le_of_ble_eq_true rfl⟩, Nat.le_of_ble_eq_true rfl, Nat.le_of_ble_eq_true rfl⟩ ?_
    refine c_X12_hardF ha hka eka ?_
    refine pm_aload_n dX12_fought_152 rfl rfl ?_
    refine pm_iload dX12_fought_153 rfl ?_
    refine pm_callV (M2 := m_X12_hard) (As := [_]) ok_X12_hard (ci := 12) rfl kw_1166 kw_1168 kw_26 dX12_fought_155 rfl rfl rfl (Nat.le_of_ble_eq_true rfl) ⟨⟨Nat.le_of_ble_eq_true rfl, Nat.le_of_ble_eq_true rfl⟩, Nat.le_of_ble_eq_true rfl, Nat.le_of_ble_eq_true rfl⟩ ?_
    refine c_X12_hardF hb hkb ekb ?_
    refine pm_isub dX12_fought_158 ?_
    refine pm_imul dX12_fought_159 ?_
    refine pm_iadd dX12_fought_160 ?_
    refine pm_iconst (v := 4) dX12_fought_161 (by decide) ?_
    refine pm_iload dX12_fought_162 rfl ?_
    refine pm_iload_n dX12_fought_164 rfl rfl ?_
    refine pm_icmp_ne (tgt := 175) dX12_fought_165 (by decide) (fun c_165 => ?_) (fun c_165 => absurd c_165 (fun e => hne ((nI_eq (by omega) (by omega)).mp e).symm))
    refine pm_aload_n dX12_fought_175 rfl rfl ?_
    refine pm_get fl_RX12_182_12 dX12_fought_176 rfl rfl ?_
    refine pm_imul dX12_fought_179 ?_
    refine pm_iadd dX12_fought_180 ?_
    refine pm_istore (lv2 := [(6, _), (5, _), (4, _), (0, _), (1, _), (2, _), (3, _)]) dX12_fought_181 (Nat.le_of_ble_eq_true rfl) rfl ?_
    refine pm_iload dX12_fought_183 rfl ?_
    refine pm_iconst (v := 1) dX12_fought_185 (by decide) ?_
    refine pm_icmp_ge (tgt := 193) dX12_fought_186 (by decide) (fun c_186 => ?_) (fun c_186 => ?_)
    · refine pm_iload dX12_fought_193 rfl ?_
      refine pm_bipush (v := 95) dX12_fought_195 (by decide) ?_
      refine pm_icmp_le (tgt := 205) dX12_fought_197 (by decide) (fun c_197 => ?_) (fun c_197 => ?_)
      · refine pm_iload dX12_fought_205 rfl ?_
        refine pm_istore (lv2 := [(6, _), (5, _), (4, _), (0, _), (1, _), (2, _), (3, _)]) dX12_fought_207 (Nat.le_of_ble_eq_true rfl) rfl ?_
        refine pm_aload_n dX12_fought_209 rfl rfl ?_
        refine pm_bipush (v := 100) dX12_fought_210 (by decide) ?_
        refine pm_callV (M2 := m_X12_draw) (As := [_]) ok_X12_draw (ci := 12) rfl kw_1194 kw_1196 kw_31 dX12_fought_212 rfl rfl rfl (Nat.le_of_ble_eq_true rfl) ⟨⟨Nat.le_of_ble_eq_true rfl, Nat.le_of_ble_eq_true rfl⟩, Nat.le_of_ble_eq_true rfl, Nat.le_of_ble_eq_true rfl⟩ ?_
        refine c_X12_draw (sd := th_nx sd) (st := nI (k + 1)) (tg := tg) (ca := ca) (cb := cb) (by decide) ?_
        refine pm_iload dX12_fought_215 rfl ?_
        refine pm_icmp_ge (tgt := 223) dX12_fought_217 (by decide) (fun c_217 => ?_) (fun c_217 => ?_)
        · refine pm_aload_n dX12_fought_223 rfl rfl ?_
          refine pm_dup dX12_fought_224 rfl ?_
          refine pm_get fl_RX12_179_12 dX12_fought_225 rfl rfl ?_
          refine pm_iload dX12_fought_228 rfl ?_
          refine pm_iload_n dX12_fought_230 rfl rfl ?_
          refine pm_icmp_ne (tgt := 238) dX12_fought_231 (by decide) (fun c_231 => ?_) (fun c_231 => absurd c_231 (fun e => hne ((nI_eq (by omega) (by omega)).mp e).symm))
          refine pm_iconst (v := 0) dX12_fought_238 (by decide) ?_
          refine pm_iadd dX12_fought_239 ?_
          rw [Int32.add_zero]
          refine pm_put (w2 := (_, _, _, _, _, _, _, _, [.inr (_, [_, _, _, _, _, _, _, _, _, _, _, _, _, _, _, _, _, _, _, _, _, _, _, _, _, _, _, _, _, _, _, _, _, _, _, _, _, _, _, _, _, _, _, _]), _, _, _, _, _, _, _, _, _, _, _, _, _, _, _, _, _, _, _, _, _, _, _])) fl_RX12_179_12 fp_12_24 dX12_fought_240 rfl rfl rfl (Nat.le_of_ble_eq_true rfl) rfl ?_
          refine pm_aload_n dX12_fought_243 rfl rfl ?_
          refine pm_dup dX12_fought_244 rfl ?_
          refine pm_get fl_RX12_182_12 dX12_fought_245 rfl rfl ?_
          refine pm_iload dX12_fought_248 rfl ?_
          refine pm_iload_n dX12_fought_250 rfl rfl ?_
          refine pm_icmp_ne (tgt := 258) dX12_fought_251 (by decide) (fun c_251 => ?_) (fun c_251 => absurd c_251 (fun e => hne ((nI_eq (by omega) (by omega)).mp e).symm))
          refine pm_iconst (v := 1) dX12_fought_258 (by decide) ?_
          refine pm_iadd dX12_fought_259 ?_
          refine pm_put (w2 := (_, _, _, _, _, _, _, _, [.inr (_, [_, _, _, _, _, _, _, _, _, _, _, _, _, _, _, _, _, _, _, _, _, _, _, _, _, _, _, _, _, _, _, _, _, _, _, _, _, _, _, _, _, _, _, _]), _, _, _, _, _, _, _, _, _, _, _, _, _, _, _, _, _, _, _, _, _, _, _])) fl_RX12_182_12 fp_12_25 dX12_fought_260 rfl rfl rfl (Nat.le_of_ble_eq_true rfl) rfl ?_
          refine pm_iload dX12_fought_263 rfl ?_
          refine pm_istore (lv2 := [(4, _), (6, _), (5, _), (0, _), (1, _), (2, _), (3, _)]) dX12_fought_265 (Nat.le_of_ble_eq_true rfl) rfl ?_
          refine pm_goto (tgt := 38) dX12_fought_267 (by decide) ?_
          refine pm_pick [0, 3, 4, 5, 6] rfl ?_
          rw [th_fmt (fun z => absurd c_77 (Int32.not_le.mpr z)) (fun z => absurd c_217 (Int32.not_le.mpr (th_lte z (by rw [th_cm]; exact (if_pos c_186).trans (if_pos c_197)))))] at hQ
          exact ih false _ _ _ _ hQ
        · refine pm_iload dX12_fought_220 rfl ?_
          refine pm_iret dX12_fought_222 rfl rfl rfl ?_
          rw [th_fwt (fun z => absurd c_77 (Int32.not_le.mpr z)) (th_lte (Int32.not_le.mp c_217) (Eq.symm (by rw [th_cm]; exact (if_pos c_186).trans (if_pos c_197))))] at hQ
          exact hQ
      · refine pm_bipush (v := 95) dX12_fought_200 (by decide) ?_
        refine pm_goto (tgt := 207) dX12_fought_202 (by decide) ?_
        refine pm_istore (lv2 := [(6, _), (5, _), (4, _), (0, _), (1, _), (2, _), (3, _)]) dX12_fought_207 (Nat.le_of_ble_eq_true rfl) rfl ?_
        refine pm_aload_n dX12_fought_209 rfl rfl ?_
        refine pm_bipush (v := 100) dX12_fought_210 (by decide) ?_
        refine pm_callV (M2 := m_X12_draw) (As := [_]) ok_X12_draw (ci := 12) rfl kw_1194 kw_1196 kw_31 dX12_fought_212 rfl rfl rfl (Nat.le_of_ble_eq_true rfl) ⟨⟨Nat.le_of_ble_eq_true rfl, Nat.le_of_ble_eq_true rfl⟩, Nat.le_of_ble_eq_true rfl, Nat.le_of_ble_eq_true rfl⟩ ?_
        refine c_X12_draw (sd := th_nx sd) (st := nI (k + 1)) (tg := tg) (ca := ca) (cb := cb) (by decide) ?_
        refine pm_iload dX12_fought_215 rfl ?_
        refine pm_icmp_ge (tgt := 223) dX12_fought_217 (by decide) (fun c_217 => ?_) (fun c_217 => ?_)
        · refine pm_aload_n dX12_fought_223 rfl rfl ?_
          refine pm_dup dX12_fought_224 rfl ?_
          refine pm_get fl_RX12_179_12 dX12_fought_225 rfl rfl ?_
          refine pm_iload dX12_fought_228 rfl ?_
          refine pm_iload_n dX12_fought_230 rfl rfl ?_
          refine pm_icmp_ne (tgt := 238) dX12_fought_231 (by decide) (fun c_231 => ?_) (fun c_231 => absurd c_231 (fun e => hne ((nI_eq (by omega) (by omega)).mp e).symm))
          refine pm_iconst (v := 0) dX12_fought_238 (by decide) ?_
          refine pm_iadd dX12_fought_239 ?_
          rw [Int32.add_zero]
          refine pm_put (w2 := (_, _, _, _, _, _, _, _, [.inr (_, [_, _, _, _, _, _, _, _, _, _, _, _, _, _, _, _, _, _, _, _, _, _, _, _, _, _, _, _, _, _, _, _, _, _, _, _, _, _, _, _, _, _, _, _]), _, _, _, _, _, _, _, _, _, _, _, _, _, _, _, _, _, _, _, _, _, _, _])) fl_RX12_179_12 fp_12_24 dX12_fought_240 rfl rfl rfl (Nat.le_of_ble_eq_true rfl) rfl ?_
          refine pm_aload_n dX12_fought_243 rfl rfl ?_
          refine pm_dup dX12_fought_244 rfl ?_
          refine pm_get fl_RX12_182_12 dX12_fought_245 rfl rfl ?_
          refine pm_iload dX12_fought_248 rfl ?_
          refine pm_iload_n dX12_fought_250 rfl rfl ?_
          refine pm_icmp_ne (tgt := 258) dX12_fought_251 (by decide) (fun c_251 => ?_) (fun c_251 => absurd c_251 (fun e => hne ((nI_eq (by omega) (by omega)).mp e).symm))
          refine pm_iconst (v := 1) dX12_fought_258 (by decide) ?_
          refine pm_iadd dX12_fought_259 ?_
          refine pm_put (w2 := (_, _, _, _, _, _, _, _, [.inr (_, [_, _, _, _, _, _, _, _, _, _, _, _, _, _, _, _, _, _, _, _, _, _, _, _, _, _, _, _, _, _, _, _, _, _, _, _, _, _, _, _, _, _, _, _]), _, _, _, _, _, _, _, _, _, _, _, _, _, _, _, _, _, _, _, _, _, _, _])) fl_RX12_182_12 fp_12_25 dX12_fought_260 rfl rfl rfl (Nat.le_of_ble_eq_true rfl) rfl ?_
          refine pm_iload dX12_fought_263 rfl ?_
          refine pm_istore (lv2 := [(4, _), (6, _), (5, _), (0, _), (1, _), (2, _), (3, _)]) dX12_fought_265 (Nat.le_of_ble_eq_true rfl) rfl ?_
          refine pm_goto (tgt := 38) dX12_fought_267 (by decide) ?_
          refine pm_pick [0, 3, 4, 5, 6] rfl ?_
          rw [th_fmt (fun z => absurd c_77 (Int32.not_le.mpr z)) (fun z => absurd c_217 (Int32.not_le.mpr (th_lte z (by rw [th_cm]; exact (if_pos c_186).trans (if_neg c_197)))))] at hQ
          exact ih false _ _ _ _ hQ
        · refine pm_iload dX12_fought_220 rfl ?_
          refine pm_iret dX12_fought_222 rfl rfl rfl ?_
          rw [th_fwt (fun z => absurd c_77 (Int32.not_le.mpr z)) (th_lte (Int32.not_le.mp c_217) (Eq.symm (by rw [th_cm]; exact (if_pos c_186).trans (if_neg c_197))))] at hQ
          exact hQ
    · refine pm_iconst (v := 1) dX12_fought_189 (by decide) ?_
      refine pm_goto (tgt := 207) dX12_fought_190 (by decide) ?_
      refine pm_istore (lv2 := [(6, _), (5, _), (4, _), (0, _), (1, _), (2, _), (3, _)]) dX12_fought_207 (Nat.le_of_ble_eq_true rfl) rfl ?_
      refine pm_aload_n dX12_fought_209 rfl rfl ?_
      refine pm_bipush (v := 100) dX12_fought_210 (by decide) ?_
      refine pm_callV (M2 := m_X12_draw) (As := [_]) ok_X12_draw (ci := 12) rfl kw_1194 kw_1196 kw_31 dX12_fought_212 rfl rfl rfl (Nat.le_of_ble_eq_true rfl) ⟨⟨Nat.le_of_ble_eq_true rfl, Nat.le_of_ble_eq_true rfl⟩, Nat.le_of_ble_eq_true rfl, Nat.le_of_ble_eq_true rfl⟩ ?_
      refine c_X12_draw (sd := th_nx sd) (st := nI (k + 1)) (tg := tg) (ca := ca) (cb := cb) (by decide) ?_
      refine pm_iload dX12_fought_215 rfl ?_
      refine pm_icmp_ge (tgt := 223) dX12_fought_217 (by decide) (fun c_217 => ?_) (fun c_217 => ?_)
      · refine pm_aload_n dX12_fought_223 rfl rfl ?_
        refine pm_dup dX12_fought_224 rfl ?_
        refine pm_get fl_RX12_179_12 dX12_fought_225 rfl rfl ?_
        refine pm_iload dX12_fought_228 rfl ?_
        refine pm_iload_n dX12_fought_230 rfl rfl ?_
        refine pm_icmp_ne (tgt := 238) dX12_fought_231 (by decide) (fun c_231 => ?_) (fun c_231 => absurd c_231 (fun e => hne ((nI_eq (by omega) (by omega)).mp e).symm))
        refine pm_iconst (v := 0) dX12_fought_238 (by decide) ?_
        refine pm_iadd dX12_fought_239 ?_
        rw [Int32.add_zero]
        refine pm_put (w2 := (_, _, _, _, _, _, _, _, [.inr (_, [_, _, _, _, _, _, _, _, _, _, _, _, _, _, _, _, _, _, _, _, _, _, _, _, _, _, _, _, _, _, _, _, _, _, _, _, _, _, _, _, _, _, _, _]), _, _, _, _, _, _, _, _, _, _, _, _, _, _, _, _, _, _, _, _, _, _, _])) fl_RX12_179_12 fp_12_24 dX12_fought_240 rfl rfl rfl (Nat.le_of_ble_eq_true rfl) rfl ?_
        refine pm_aload_n dX12_fought_243 rfl rfl ?_
        refine pm_dup dX12_fought_244 rfl ?_
        refine pm_get fl_RX12_182_12 dX12_fought_245 rfl rfl ?_
        refine pm_iload dX12_fought_248 rfl ?_
        refine pm_iload_n dX12_fought_250 rfl rfl ?_
        refine pm_icmp_ne (tgt := 258) dX12_fought_251 (by decide) (fun c_251 => ?_) (fun c_251 => absurd c_251 (fun e => hne ((nI_eq (by omega) (by omega)).mp e).symm))
        refine pm_iconst (v := 1) dX12_fought_258 (by decide) ?_
        refine pm_iadd dX12_fought_259 ?_
        refine pm_put (w2 := (_, _, _, _, _, _, _, _, [.inr (_, [_, _, _, _, _, _, _, _, _, _, _, _, _, _, _, _, _, _, _, _, _, _, _, _, _, _, _, _, _, _, _, _, _, _, _, _, _, _, _, _, _, _, _, _]), _, _, _, _, _, _, _, _, _, _, _, _, _, _, _, _, _, _, _, _, _, _, _])) fl_RX12_182_12 fp_12_25 dX12_fought_260 rfl rfl rfl (Nat.le_of_ble_eq_true rfl) rfl ?_
        refine pm_iload dX12_fought_263 rfl ?_
        refine pm_istore (lv2 := [(4, _), (6, _), (5, _), (0, _), (1, _), (2, _), (3, _)]) dX12_fought_265 (Nat.le_of_ble_eq_true rfl) rfl ?_
        refine pm_goto (tgt := 38) dX12_fought_267 (by decide) ?_
        refine pm_pick [0, 3, 4, 5, 6] rfl ?_
        rw [th_fmt (fun z => absurd c_77 (Int32.not_le.mpr z)) (fun z => absurd c_217 (Int32.not_le.mpr (th_lte z (by rw [th_cm]; exact if_neg c_186))))] at hQ
        exact ih false _ _ _ _ hQ
      · refine pm_iload dX12_fought_220 rfl ?_
        refine pm_iret dX12_fought_222 rfl rfl rfl ?_
        rw [th_fwt (fun z => absurd c_77 (Int32.not_le.mpr z)) (th_lte (Int32.not_le.mp c_217) (Eq.symm (by rw [th_cm]; exact if_neg c_186)))] at hQ
        exact hQ
  · refine pm_aload_n dX12_fought_80 rfl rfl ?_
    refine pm_dup dX12_fought_81 rfl ?_
    refine pm_get fl_RX12_176_12 dX12_fought_82 rfl rfl ?_
    refine pm_iconst (v := 1) dX12_fought_85 (by decide) ?_
    refine pm_iadd dX12_fought_86 ?_
    refine pm_put (w2 := (_, _, _, _, _, _, _, _, [.inr (_, [_, _, _, _, _, _, _, _, _, _, _, _, _, _, _, _, _, _, _, _, _, _, _, _, _, _, _, _, _, _, _, _, _, _, _, _, _, _, _, _, _, _, _, _]), _, _, _, _, _, _, _, _, _, _, _, _, _, _, _, _, _, _, _, _, _, _, _])) fl_RX12_176_12 fp_12_23 dX12_fought_87 rfl rfl rfl (Nat.le_of_ble_eq_true rfl) rfl ?_
    refine pm_aload_n dX12_fought_90 rfl rfl ?_
    refine pm_get fl_RX12_19_12 dX12_fought_91 rfl rfl ?_
    refine pm_aload_n dX12_fought_94 rfl rfl ?_
    refine pm_get fl_RX12_28_12 dX12_fought_95 rfl rfl ?_
    refine pm_iload dX12_fought_98 rfl ?_
    refine pm_iald dX12_fought_100 rfl (th_in ha (by decide)) ?_
    rw [th_cl (by omega), esa]
    refine pm_iald dX12_fought_101 rfl (th_in hsa (by decide)) ?_
    rw [th_cl (by omega)]
    refine pm_istore (lv2 := [(6, _), (5, _), (4, _), (0, _), (1, _), (2, _), (3, _)]) dX12_fought_102 (Nat.le_of_ble_eq_true rfl) rfl ?_
    refine pm_iload dX12_fought_104 rfl ?_
    refine pm_bipush (v := 116) dX12_fought_106 (by decide) ?_
    refine pm_icmp_ne (tgt := 116) dX12_fought_108 (by decide) (fun c_108 => ?_) (fun c_108 => ?_)
    · refine pm_iload dX12_fought_116 rfl ?_
      refine pm_bipush (v := 111) dX12_fought_118 (by decide) ?_
      refine pm_icmp_ne (tgt := 128) dX12_fought_120 (by decide) (fun c_120 => ?_) (fun c_120 => ?_)
      · refine pm_iload_n dX12_fought_128 rfl rfl ?_
        refine pm_iload_n dX12_fought_129 rfl rfl ?_
        refine pm_icmp_ge (tgt := 137) dX12_fought_130 (by decide) (fun c_130 => ?_) (fun c_130 => ?_)
        · refine pm_iload_n dX12_fought_137 rfl rfl ?_
          refine pm_istore (lv2 := [(4, _), (6, _), (5, _), (0, _), (1, _), (2, _), (3, _)]) dX12_fought_138 (Nat.le_of_ble_eq_true rfl) rfl ?_
          refine pm_goto (tgt := 267) dX12_fought_140 (by decide) ?_
          refine pm_goto (tgt := 38) dX12_fought_267 (by decide) ?_
          refine pm_pick [0, 3, 4, 5, 6] rfl ?_
          have hlt : ¬ a < b := fun q => absurd ((nI_leI (by omega) (by omega)).mp c_130) (by omega)
          rw [th_fat (Int32.not_le.mp c_77)] at hQ
          rw [show th_ns (decide (a < b)) true (A 4 sa) = false from (if_neg c_108).trans ((if_neg c_120).trans (decide_eq_false hlt))] at hQ
          exact ih false _ _ _ _ hQ
        · refine pm_iload_n dX12_fought_133 rfl rfl ?_
          refine pm_goto (tgt := 138) dX12_fought_134 (by decide) ?_
          refine pm_istore (lv2 := [(4, _), (6, _), (5, _), (0, _), (1, _), (2, _), (3, _)]) dX12_fought_138 (Nat.le_of_ble_eq_true rfl) rfl ?_
          refine pm_goto (tgt := 267) dX12_fought_140 (by decide) ?_
          refine pm_goto (tgt := 38) dX12_fought_267 (by decide) ?_
          refine pm_pick [0, 3, 4, 5, 6] rfl ?_
          have hlt : a < b := by
            rw [nI_leI (by omega) (by omega)] at c_130
            omega
          rw [th_fat (Int32.not_le.mp c_77)] at hQ
          rw [show th_ns (decide (a < b)) true (A 4 sa) = true from (if_neg c_108).trans ((if_neg c_120).trans (decide_eq_true hlt))] at hQ
          exact ih true _ _ _ _ hQ
      · refine pm_iload dX12_fought_123 rfl ?_
        refine pm_goto (tgt := 138) dX12_fought_125 (by decide) ?_
        refine pm_istore (lv2 := [(4, _), (6, _), (5, _), (0, _), (1, _), (2, _), (3, _)]) dX12_fought_138 (Nat.le_of_ble_eq_true rfl) rfl ?_
        refine pm_goto (tgt := 267) dX12_fought_140 (by decide) ?_
        refine pm_goto (tgt := 38) dX12_fought_267 (by decide) ?_
        refine pm_pick [0, 3, 4, 5, 6] rfl ?_
        rw [th_fat (Int32.not_le.mp c_77)] at hQ
        rw [show th_ns (decide (a < b)) true (A 4 sa) = false from (if_neg c_108).trans (if_pos c_120)] at hQ
        exact ih false _ _ _ _ hQ
    · refine pm_iload dX12_fought_111 rfl ?_
      refine pm_goto (tgt := 138) dX12_fought_113 (by decide) ?_
      refine pm_istore (lv2 := [(4, _), (6, _), (5, _), (0, _), (1, _), (2, _), (3, _)]) dX12_fought_138 (Nat.le_of_ble_eq_true rfl) rfl ?_
      refine pm_goto (tgt := 267) dX12_fought_140 (by decide) ?_
      refine pm_goto (tgt := 38) dX12_fought_267 (by decide) ?_
      refine pm_pick [0, 3, 4, 5, 6] rfl ?_
      rw [th_fat (Int32.not_le.mp c_77)] at hQ
      rw [show th_ns (decide (a < b)) true (A 4 sa) = true from if_pos c_108] at hQ
      exact ih true _ _ _ _ hQ

set_option maxHeartbeats 600000 in
set_option maxRecDepth 100000 in
theorem b_X12_fought_false {l : Launch} {G : pm_G} {ad : Nat → Nat → Nat} {a0 a3 a4 a5 a6 a7 : List pm_A} {a1 a2 : Nat → Option pm_A} {S : Nat → Nat} {A : Nat → Nat → Int32} {s : Nat → Int32} {B : Nat → Nat → Int32} {hs : Int64} {Q : pm_T} {a b ka kb sa sb : Nat} {sd0 : Int32} (ha : a < 8) (hb : b < 8) (hne : a ≠ b) (hka : ka ≤ 4) (hkb : kb ≤ 4) (eka : A 6 a = nI ka) (ekb : A 6 b = nI kb) (hsa : sa < 3) (hsb : sb < 3) (esa : A 7 a = nI sa) (esb : A 7 b = nI sb) {n k : Nat} {sd tg ca cb : Int32} (hk : k < 50) (ih : ∀ (fa : Bool) (sd tg ca cb : Int32), th_FQ ad a0 a3 a4 a5 a6 a7 a1 a2 S A s B hs Q a b (th_ft (pm_hd ka (A 8 a)) (pm_hd kb (A 8 b)) (A 4 sa) (A 4 sb) (decide (a < b)) n (k + 1) fa sd tg ca cb) → pm_W l G m_X12_fought ad 38 [(4, .int (nI (if fa then a else b))), (0, .ref (ad 8 0)), (1, .int (nI a)), (2, .int (nI b)), (3, .int sd0)] [] (a0, a1, a2, a3, a4, a5, a6, a7, th_mf ad S A s B hs sd (nI (k + 1)) tg ca cb) 0 0 Q) (hQ : th_FQ ad a0 a3 a4 a5 a6 a7 a1 a2 S A s B hs Q a b (th_ft (pm_hd ka (A 8 a)) (pm_hd kb (A 8 b)) (A 4 sa) (A 4 sb) (decide (a < b)) (n + 1) k false sd tg ca cb)) : pm_W l G m_X12_fought ad 38 [(4, .int (nI b)), (0, .ref (ad 8 0)), (1, .int (nI a)), (2, .int (nI b)), (3, .int sd0)] [] (a0, a1, a2, a3, a4, a5, a6, a7, th_mf ad S A s B hs sd (nI k) tg ca cb) 0 0 Q := by
  refine pm_aload_n dX12_fought_38 rfl rfl ?_
  refine pm_get fl_RX12_173_12 dX12_fought_39 rfl rfl ?_
  refine pm_bipush (v := 50) dX12_fought_42 (by decide) ?_
  rw [show (50 : Int32) = nI 50 from rfl]
  refine pm_icmp_ge (tgt := 270) dX12_fought_44 (by decide) (fun c_44 => absurd c_44 (show ¬ nI 50 ≤ nI k from by rw [nI_leI (by decide) (by omega)]; omega)) (fun c_44 => ?_)
  refine pm_iload dX12_fought_47 rfl ?_
  refine pm_iload_n dX12_fought_49 rfl rfl ?_
  refine pm_icmp_ne (tgt := 57) dX12_fought_50 (by decide) (fun c_50 => ?_) (fun c_50 => absurd c_50 (fun e => hne ((nI_eq (by omega) (by omega)).mp e).symm))
  refine pm_iload_n dX12_fought_57 rfl rfl ?_
  refine pm_istore (lv2 := [(5, _), (4, _), (0, _), (1, _), (2, _), (3, _)]) dX12_fought_58 (Nat.le_of_ble_eq_true rfl) rfl ?_
  refine pm_aload_n dX12_fought_60 rfl rfl ?_
  refine pm_dup dX12_fought_61 rfl ?_
  refine pm_get fl_RX12_173_12 dX12_fought_62 rfl rfl ?_
  refine pm_iconst (v := 1) dX12_fought_65 (by decide) ?_
  refine pm_iadd dX12_fought_66 ?_
  rw [nI_1]
  refine pm_put (w2 := (_, _, _, _, _, _, _, _, [.inr (_, [_, _, _, _, _, _, _, _, _, _, _, _, _, _, _, _, _, _, _, _, _, _, _, _, _, _, _, _, _, _, _, _, _, _, _, _, _, _, _, _, _, _, _, _]), _, _, _, _, _, _, _, _, _, _, _, _, _, _, _, _, _, _, _, _, _, _, _])) fl_RX12_173_12 fp_12_22 dX12_fought_67 rfl rfl rfl (Nat.le_of_ble_eq_true rfl) rfl ?_
  refine pm_aload_n dX12_fought_70 rfl rfl ?_
  refine pm_bipush (v := 10) dX12_fought_71 (by decide) ?_
  refine pm_callV (M2 := m_X12_draw) (As := [_]) ok_X12_draw (ci := 12) rfl kw_1194 kw_1196 kw_31 dX12_fought_73 rfl rfl rfl (Nat.le_of_ble_eq_true rfl) ⟨⟨Nat.le_of_ble_eq_true rfl, Nat.le_of_ble_eq_true rfl⟩, Nat.le_of_ble_eq_true rfl, Nat.le_of_ble_eq_true rfl⟩ ?_
  refine c_X12_draw (sd := sd) (st := nI (k + 1)) (tg := tg) (ca := ca) (cb := cb) (by decide) ?_
  refine pm_iconst (v := 2) dX12_fought_76 (by decide) ?_
  refine pm_icmp_ge (tgt := 143) dX12_fought_77 (by decide) (fun c_77 => ?_) (fun c_77 => ?_)
  · refine pm_bipush (v := 15) dX12_fought_143 (by decide) ?_
    refine pm_iconst (v := 5) dX12_fought_145 (by decide) ?_
    refine pm_aload_n dX12_fought_146 rfl rfl ?_
    refine pm_iload dX12_fought_147 rfl ?_
    refine pm_callV (M2 := m_X12_hard) (As := [_]) ok_X12_hard (ci := 12) rfl kw_1166 kw_1168 kw_26 dX12_fought_149 rfl rfl rfl (Nat.le_of_ble_eq_true rfl) ⟨⟨Nat.le_of_ble_eq_true rfl, Nat.le_of_ble_eq_true rfl⟩, Nat.le_of_ble_eq_true rfl, Nat.le_of_ble_eq_true rfl⟩ ?_
    refine c_X12_hardF hb hkb ekb ?_
    refine pm_aload_n dX12_fought_152 rfl rfl ?_
    refine pm_iload dX12_fought_153 rfl ?_
    refine pm_callV (M2 := m_X12_hard) (As := [_]) ok_X12_hard (ci := 12) rfl kw_1166 kw_1168 kw_26 dX12_fought_155 rfl rfl rfl (Nat.le_of_ble_eq_true rfl) ⟨⟨Nat.le_of_ble_eq_true rfl, Nat.le_of_ble_eq_true rfl⟩, Nat.le_of_ble_eq_true rfl, Nat.le_of_ble_eq_true rfl⟩ ?_
    refine c_X12_hardF ha hka eka ?_
    refine pm_isub dX12_fought_158 ?_
    refine pm_imul dX12_fought_159 ?_
    refine pm_iadd dX12_fought_160 ?_
    refine pm_iconst (v := 4) dX12_fought_161 (by decide) ?_
    refine pm_iload dX12_fought_162 rfl ?_
    refine pm_iload_n dX12_fought_164 rfl rfl ?_
    refine pm_icmp_ne (tgt := 175) dX12_fought_165 (by decide) (fun c_165 => absurd (rfl) c_165) (fun c_165 => ?_)
    refine pm_aload_n dX12_fought_168 rfl rfl ?_
    refine pm_get fl_RX12_179_12 dX12_fought_169 rfl rfl ?_
    refine pm_goto (tgt := 179) dX12_fought_172 (by decide) ?_
    refine pm_imul dX12_fought_179 ?_
    refine pm_iadd dX12_fought_180 ?_
    refine pm_istore (lv2 := [(6, _), (5, _), (4, _), (0, _), (1, _), (2, _), (3, _)]) dX12_fought_181 (Nat.le_of_ble_eq_true rfl) rfl ?_
    refine pm_iload dX12_fought_183 rfl ?_
    refine pm_iconst (v := 1) dX12_fought_185 (by decide) ?_
    refine pm_icmp_ge (tgt := 193) dX12_fought_186 (by decide) (fun c_186 => ?_) (fun c_186 => ?_)
    · refine pm_iload dX12_fought_193 rfl ?_
      refine pm_bipush (v := 95) dX12_fought_195 (by decide) ?_
      refine pm_icmp_le (tgt := 205) dX12_fought_197 (by decide) (fun c_197 => ?_) (fun c_197 => ?_)
      · refine pm_iload dX12_fought_205 rfl ?_
        refine pm_istore (lv2 := [(6, _), (5, _), (4, _), (0, _), (1, _), (2, _), (3, _)]) dX12_fought_207 (Nat.le_of_ble_eq_true rfl) rfl ?_
        refine pm_aload_n dX12_fought_209 rfl rfl ?_
        refine pm_bipush (v := 100) dX12_fought_210 (by decide) ?_
        refine pm_callV (M2 := m_X12_draw) (As := [_]) ok_X12_draw (ci := 12) rfl kw_1194 kw_1196 kw_31 dX12_fought_212 rfl rfl rfl (Nat.le_of_ble_eq_true rfl) ⟨⟨Nat.le_of_ble_eq_true rfl, Nat.le_of_ble_eq_true rfl⟩, Nat.le_of_ble_eq_true rfl, Nat.le_of_ble_eq_true rfl⟩ ?_
        refine c_X12_draw (sd := th_nx sd) (st := nI (k + 1)) (tg := tg) (ca := ca) (cb := cb) (by decide) ?_
        refine pm_iload dX12_fought_215 rfl ?_
        refine pm_icmp_ge (tgt := 223) dX12_fought_217 (by decide) (fun c_217 => ?_) (fun c_217 => ?_)
        · refine pm_aload_n dX12_fought_223 rfl rfl ?_
          refine pm_dup dX12_fought_224 rfl ?_
          refine pm_get fl_RX12_179_12 dX12_fought_225 rfl rfl ?_
          refine pm_iload dX12_fought_228 rfl ?_
          refine pm_iload_n dX12_fought_230 rfl rfl ?_
          refine pm_icmp_ne (tgt := 238) dX12_fought_231 (by decide) (fun c_231 => absurd (rfl) c_231) (fun c_231 => ?_)
          refine pm_iconst (v := 1) dX12_fought_234 (by decide) ?_
          refine pm_goto (tgt := 239) dX12_fought_235 (by decide) ?_
          refine pm_iadd dX12_fought_239 ?_
          refine pm_put (w2 := (_, _, _, _, _, _, _, _, [.inr (_, [_, _, _, _, _, _, _, _, _, _, _, _, _, _, _, _, _, _, _, _, _, _, _, _, _, _, _, _, _, _, _, _, _, _, _, _, _, _, _, _, _, _, _, _]), _, _, _, _, _, _, _, _, _, _, _, _, _, _, _, _, _, _, _, _, _, _, _])) fl_RX12_179_12 fp_12_24 dX12_fought_240 rfl rfl rfl (Nat.le_of_ble_eq_true rfl) rfl ?_
          refine pm_aload_n dX12_fought_243 rfl rfl ?_
          refine pm_dup dX12_fought_244 rfl ?_
          refine pm_get fl_RX12_182_12 dX12_fought_245 rfl rfl ?_
          refine pm_iload dX12_fought_248 rfl ?_
          refine pm_iload_n dX12_fought_250 rfl rfl ?_
          refine pm_icmp_ne (tgt := 258) dX12_fought_251 (by decide) (fun c_251 => absurd (rfl) c_251) (fun c_251 => ?_)
          refine pm_iconst (v := 0) dX12_fought_254 (by decide) ?_
          refine pm_goto (tgt := 259) dX12_fought_255 (by decide) ?_
          refine pm_iadd dX12_fought_259 ?_
          rw [Int32.add_zero]
          refine pm_put (w2 := (_, _, _, _, _, _, _, _, [.inr (_, [_, _, _, _, _, _, _, _, _, _, _, _, _, _, _, _, _, _, _, _, _, _, _, _, _, _, _, _, _, _, _, _, _, _, _, _, _, _, _, _, _, _, _, _]), _, _, _, _, _, _, _, _, _, _, _, _, _, _, _, _, _, _, _, _, _, _, _])) fl_RX12_182_12 fp_12_25 dX12_fought_260 rfl rfl rfl (Nat.le_of_ble_eq_true rfl) rfl ?_
          refine pm_iload dX12_fought_263 rfl ?_
          refine pm_istore (lv2 := [(4, _), (6, _), (5, _), (0, _), (1, _), (2, _), (3, _)]) dX12_fought_265 (Nat.le_of_ble_eq_true rfl) rfl ?_
          refine pm_goto (tgt := 38) dX12_fought_267 (by decide) ?_
          refine pm_pick [0, 3, 4, 5, 6] rfl ?_
          rw [th_fmf (fun z => absurd c_77 (Int32.not_le.mpr z)) (fun z => absurd c_217 (Int32.not_le.mpr (th_lte z (by rw [th_cm]; exact (if_pos c_186).trans (if_pos c_197)))))] at hQ
          exact ih true _ _ _ _ hQ
        · refine pm_iload dX12_fought_220 rfl ?_
          refine pm_iret dX12_fought_222 rfl rfl rfl ?_
          rw [th_fwf (fun z => absurd c_77 (Int32.not_le.mpr z)) (th_lte (Int32.not_le.mp c_217) (Eq.symm (by rw [th_cm]; exact (if_pos c_186).trans (if_pos c_197))))] at hQ
          exact hQ
      · refine pm_bipush (v := 95) dX12_fought_200 (by decide) ?_
        refine pm_goto (tgt := 207) dX12_fought_202 (by decide) ?_
        refine pm_istore (lv2 := [(6, _), (5, _), (4, _), (0, _), (1, _), (2, _), (3, _)]) dX12_fought_207 (Nat.le_of_ble_eq_true rfl) rfl ?_
        refine pm_aload_n dX12_fought_209 rfl rfl ?_
        refine pm_bipush (v := 100) dX12_fought_210 (by decide) ?_
        refine pm_callV (M2 := m_X12_draw) (As := [_]) ok_X12_draw (ci := 12) rfl kw_1194 kw_1196 kw_31 dX12_fought_212 rfl rfl rfl (Nat.le_of_ble_eq_true rfl) ⟨⟨Nat.le_of_ble_eq_true rfl, Nat.le_of_ble_eq_true rfl⟩, Nat.le_of_ble_eq_true rfl, Nat.le_of_ble_eq_true rfl⟩ ?_
        refine c_X12_draw (sd := th_nx sd) (st := nI (k + 1)) (tg := tg) (ca := ca) (cb := cb) (by decide) ?_
        refine pm_iload dX12_fought_215 rfl ?_
        refine pm_icmp_ge (tgt := 223) dX12_fought_217 (by decide) (fun c_217 => ?_) (fun c_217 => ?_)
        · refine pm_aload_n dX12_fought_223 rfl rfl ?_
          refine pm_dup dX12_fought_224 rfl ?_
          refine pm_get fl_RX12_179_12 dX12_fought_225 rfl rfl ?_
          refine pm_iload dX12_fought_228 rfl ?_
          refine pm_iload_n dX12_fought_230 rfl rfl ?_
          refine pm_icmp_ne (tgt := 238) dX12_fought_231 (by decide) (fun c_231 => absurd (rfl) c_231) (fun c_231 => ?_)
          refine pm_iconst (v := 1) dX12_fought_234 (by decide) ?_
          refine pm_goto (tgt := 239) dX12_fought_235 (by decide) ?_
          refine pm_iadd dX12_fought_239 ?_
          refine pm_put (w2 := (_, _, _, _, _, _, _, _, [.inr (_, [_, _, _, _, _, _, _, _, _, _, _, _, _, _, _, _, _, _, _, _, _, _, _, _, _, _, _, _, _, _, _, _, _, _, _, _, _, _, _, _, _, _, _, _]), _, _, _, _, _, _, _, _, _, _, _, _, _, _, _, _, _, _, _, _, _, _, _])) fl_RX12_179_12 fp_12_24 dX12_fought_240 rfl rfl rfl (Nat.le_of_ble_eq_true rfl) rfl ?_
          refine pm_aload_n dX12_fought_243 rfl rfl ?_
          refine pm_dup dX12_fought_244 rfl ?_
          refine pm_get fl_RX12_182_12 dX12_fought_245 rfl rfl ?_
          refine pm_iload dX12_fought_248 rfl ?_
          refine pm_iload_n dX12_fought_250 rfl rfl ?_
          refine pm_icmp_ne (tgt := 258) dX12_fought_251 (by decide) (fun c_251 => absurd (rfl) c_251) (fun c_251 => ?_)
          refine pm_iconst (v := 0) dX12_fought_254 (by decide) ?_
          refine pm_goto (tgt := 259) dX12_fought_255 (by decide) ?_
          refine pm_iadd dX12_fought_259 ?_
          rw [Int32.add_zero]
          refine pm_put (w2 := (_, _, _, _, _, _, _, _, [.inr (_, [_, _, _, _, _, _, _, _, _, _, _, _, _, _, _, _, _, _, _, _, _, _, _, _, _, _, _, _, _, _, _, _, _, _, _, _, _, _, _, _, _, _, _, _]), _, _, _, _, _, _, _, _, _, _, _, _, _, _, _, _, _, _, _, _, _, _, _])) fl_RX12_182_12 fp_12_25 dX12_fought_260 rfl rfl rfl (Nat.le_of_ble_eq_true rfl) rfl ?_
          refine pm_iload dX12_fought_263 rfl ?_
          refine pm_istore (lv2 := [(4, _), (6, _), (5, _), (0, _), (1, _), (2, _), (3, _)]) dX12_fought_265 (Nat.le_of_ble_eq_true rfl) rfl ?_
          refine pm_goto (tgt := 38) dX12_fought_267 (by decide) ?_
          refine pm_pick [0, 3, 4, 5, 6] rfl ?_
          rw [th_fmf (fun z => absurd c_77 (Int32.not_le.mpr z)) (fun z => absurd c_217 (Int32.not_le.mpr (th_lte z (by rw [th_cm]; exact (if_pos c_186).trans (if_neg c_197)))))] at hQ
          exact ih true _ _ _ _ hQ
        · refine pm_iload dX12_fought_220 rfl ?_
          refine pm_iret dX12_fought_222 rfl rfl rfl ?_
          rw [th_fwf (fun z => absurd c_77 (Int32.not_le.mpr z)) (th_lte (Int32.not_le.mp c_217) (Eq.symm (by rw [th_cm]; exact (if_pos c_186).trans (if_neg c_197))))] at hQ
          exact hQ
    · refine pm_iconst (v := 1) dX12_fought_189 (by decide) ?_
      refine pm_goto (tgt := 207) dX12_fought_190 (by decide) ?_
      refine pm_istore (lv2 := [(6, _), (5, _), (4, _), (0, _), (1, _), (2, _), (3, _)]) dX12_fought_207 (Nat.le_of_ble_eq_true rfl) rfl ?_
      refine pm_aload_n dX12_fought_209 rfl rfl ?_
      refine pm_bipush (v := 100) dX12_fought_210 (by decide) ?_
      refine pm_callV (M2 := m_X12_draw) (As := [_]) ok_X12_draw (ci := 12) rfl kw_1194 kw_1196 kw_31 dX12_fought_212 rfl rfl rfl (Nat.le_of_ble_eq_true rfl) ⟨⟨Nat.le_of_ble_eq_true rfl, Nat.le_of_ble_eq_true rfl⟩, Nat.le_of_ble_eq_true rfl, Nat.le_of_ble_eq_true rfl⟩ ?_
      refine c_X12_draw (sd := th_nx sd) (st := nI (k + 1)) (tg := tg) (ca := ca) (cb := cb) (by decide) ?_
      refine pm_iload dX12_fought_215 rfl ?_
      refine pm_icmp_ge (tgt := 223) dX12_fought_217 (by decide) (fun c_217 => ?_) (fun c_217 => ?_)
      · refine pm_aload_n dX12_fought_223 rfl rfl ?_
        refine pm_dup dX12_fought_224 rfl ?_
        refine pm_get fl_RX12_179_12 dX12_fought_225 rfl rfl ?_
        refine pm_iload dX12_fought_228 rfl ?_
        refine pm_iload_n dX12_fought_230 rfl rfl ?_
        refine pm_icmp_ne (tgt := 238) dX12_fought_231 (by decide) (fun c_231 => absurd (rfl) c_231) (fun c_231 => ?_)
        refine pm_iconst (v := 1) dX12_fought_234 (by decide) ?_
        refine pm_goto (tgt := 239) dX12_fought_235 (by decide) ?_
        refine pm_iadd dX12_fought_239 ?_
        refine pm_put (w2 := (_, _, _, _, _, _, _, _, [.inr (_, [_, _, _, _, _, _, _, _, _, _, _, _, _, _, _, _, _, _, _, _, _, _, _, _, _, _, _, _, _, _, _, _, _, _, _, _, _, _, _, _, _, _, _, _]), _, _, _, _, _, _, _, _, _, _, _, _, _, _, _, _, _, _, _, _, _, _, _])) fl_RX12_179_12 fp_12_24 dX12_fought_240 rfl rfl rfl (Nat.le_of_ble_eq_true rfl) rfl ?_
        refine pm_aload_n dX12_fought_243 rfl rfl ?_
        refine pm_dup dX12_fought_244 rfl ?_
        refine pm_get fl_RX12_182_12 dX12_fought_245 rfl rfl ?_
        refine pm_iload dX12_fought_248 rfl ?_
        refine pm_iload_n dX12_fought_250 rfl rfl ?_
        refine pm_icmp_ne (tgt := 258) dX12_fought_251 (by decide) (fun c_251 => absurd (rfl) c_251) (fun c_251 => ?_)
        refine pm_iconst (v := 0) dX12_fought_254 (by decide) ?_
        refine pm_goto (tgt := 259) dX12_fought_255 (by decide) ?_
        refine pm_iadd dX12_fought_259 ?_
        rw [Int32.add_zero]
        refine pm_put (w2 := (_, _, _, _, _, _, _, _, [.inr (_, [_, _, _, _, _, _, _, _, _, _, _, _, _, _, _, _, _, _, _, _, _, _, _, _, _, _, _, _, _, _, _, _, _, _, _, _, _, _, _, _, _, _, _, _]), _, _, _, _, _, _, _, _, _, _, _, _, _, _, _, _, _, _, _, _, _, _, _])) fl_RX12_182_12 fp_12_25 dX12_fought_260 rfl rfl rfl (Nat.le_of_ble_eq_true rfl) rfl ?_
        refine pm_iload dX12_fought_263 rfl ?_
        refine pm_istore (lv2 := [(4, _), (6, _), (5, _), (0, _), (1, _), (2, _), (3, _)]) dX12_fought_265 (Nat.le_of_ble_eq_true rfl) rfl ?_
        refine pm_goto (tgt := 38) dX12_fought_267 (by decide) ?_
        refine pm_pick [0, 3, 4, 5, 6] rfl ?_
        rw [th_fmf (fun z => absurd c_77 (Int32.not_le.mpr z)) (fun z => absurd c_217 (Int32.not_le.mpr (th_lte z (by rw [th_cm]; exact if_neg c_186))))] at hQ
        exact ih true _ _ _ _ hQ
      · refine pm_iload dX12_fought_220 rfl ?_
        refine pm_iret dX12_fought_222 rfl rfl rfl ?_
        rw [th_fwf (fun z => absurd c_77 (Int32.not_le.mpr z)) (th_lte (Int32.not_le.mp c_217) (Eq.symm (by rw [th_cm]; exact if_neg c_186)))] at hQ
        exact hQ
  · refine pm_aload_n dX12_fought_80 rfl rfl ?_
    refine pm_dup dX12_fought_81 rfl ?_
    refine pm_get fl_RX12_176_12 dX12_fought_82 rfl rfl ?_
    refine pm_iconst (v := 1) dX12_fought_85 (by decide) ?_
    refine pm_iadd dX12_fought_86 ?_
    refine pm_put (w2 := (_, _, _, _, _, _, _, _, [.inr (_, [_, _, _, _, _, _, _, _, _, _, _, _, _, _, _, _, _, _, _, _, _, _, _, _, _, _, _, _, _, _, _, _, _, _, _, _, _, _, _, _, _, _, _, _]), _, _, _, _, _, _, _, _, _, _, _, _, _, _, _, _, _, _, _, _, _, _, _])) fl_RX12_176_12 fp_12_23 dX12_fought_87 rfl rfl rfl (Nat.le_of_ble_eq_true rfl) rfl ?_
    refine pm_aload_n dX12_fought_90 rfl rfl ?_
    refine pm_get fl_RX12_19_12 dX12_fought_91 rfl rfl ?_
    refine pm_aload_n dX12_fought_94 rfl rfl ?_
    refine pm_get fl_RX12_28_12 dX12_fought_95 rfl rfl ?_
    refine pm_iload dX12_fought_98 rfl ?_
    refine pm_iald dX12_fought_100 rfl (th_in hb (by decide)) ?_
    rw [th_cl (by omega), esb]
    refine pm_iald dX12_fought_101 rfl (th_in hsb (by decide)) ?_
    rw [th_cl (by omega)]
    refine pm_istore (lv2 := [(6, _), (5, _), (4, _), (0, _), (1, _), (2, _), (3, _)]) dX12_fought_102 (Nat.le_of_ble_eq_true rfl) rfl ?_
    refine pm_iload dX12_fought_104 rfl ?_
    refine pm_bipush (v := 116) dX12_fought_106 (by decide) ?_
    refine pm_icmp_ne (tgt := 116) dX12_fought_108 (by decide) (fun c_108 => ?_) (fun c_108 => ?_)
    · refine pm_iload dX12_fought_116 rfl ?_
      refine pm_bipush (v := 111) dX12_fought_118 (by decide) ?_
      refine pm_icmp_ne (tgt := 128) dX12_fought_120 (by decide) (fun c_120 => ?_) (fun c_120 => ?_)
      · refine pm_iload_n dX12_fought_128 rfl rfl ?_
        refine pm_iload_n dX12_fought_129 rfl rfl ?_
        refine pm_icmp_ge (tgt := 137) dX12_fought_130 (by decide) (fun c_130 => ?_) (fun c_130 => ?_)
        · refine pm_iload_n dX12_fought_137 rfl rfl ?_
          refine pm_istore (lv2 := [(4, _), (6, _), (5, _), (0, _), (1, _), (2, _), (3, _)]) dX12_fought_138 (Nat.le_of_ble_eq_true rfl) rfl ?_
          refine pm_goto (tgt := 267) dX12_fought_140 (by decide) ?_
          refine pm_goto (tgt := 38) dX12_fought_267 (by decide) ?_
          refine pm_pick [0, 3, 4, 5, 6] rfl ?_
          have hlt : ¬ a < b := fun q => absurd ((nI_leI (by omega) (by omega)).mp c_130) (by omega)
          rw [th_faf (Int32.not_le.mp c_77)] at hQ
          rw [show th_ns (decide (a < b)) false (A 4 sb) = false from (if_neg c_108).trans ((if_neg c_120).trans (decide_eq_false hlt))] at hQ
          exact ih false _ _ _ _ hQ
        · refine pm_iload_n dX12_fought_133 rfl rfl ?_
          refine pm_goto (tgt := 138) dX12_fought_134 (by decide) ?_
          refine pm_istore (lv2 := [(4, _), (6, _), (5, _), (0, _), (1, _), (2, _), (3, _)]) dX12_fought_138 (Nat.le_of_ble_eq_true rfl) rfl ?_
          refine pm_goto (tgt := 267) dX12_fought_140 (by decide) ?_
          refine pm_goto (tgt := 38) dX12_fought_267 (by decide) ?_
          refine pm_pick [0, 3, 4, 5, 6] rfl ?_
          have hlt : a < b := by
            rw [nI_leI (by omega) (by omega)] at c_130
            omega
          rw [th_faf (Int32.not_le.mp c_77)] at hQ
          rw [show th_ns (decide (a < b)) false (A 4 sb) = true from (if_neg c_108).trans ((if_neg c_120).trans (decide_eq_true hlt))] at hQ
          exact ih true _ _ _ _ hQ
      · refine pm_iload dX12_fought_123 rfl ?_
        refine pm_goto (tgt := 138) dX12_fought_125 (by decide) ?_
        refine pm_istore (lv2 := [(4, _), (6, _), (5, _), (0, _), (1, _), (2, _), (3, _)]) dX12_fought_138 (Nat.le_of_ble_eq_true rfl) rfl ?_
        refine pm_goto (tgt := 267) dX12_fought_140 (by decide) ?_
        refine pm_goto (tgt := 38) dX12_fought_267 (by decide) ?_
        refine pm_pick [0, 3, 4, 5, 6] rfl ?_
        rw [th_faf (Int32.not_le.mp c_77)] at hQ
        rw [show th_ns (decide (a < b)) false (A 4 sb) = true from (if_neg c_108).trans (if_pos c_120)] at hQ
        exact ih true _ _ _ _ hQ
    · refine pm_iload dX12_fought_111 rfl ?_
      refine pm_goto (tgt := 138) dX12_fought_113 (by decide) ?_
      refine pm_istore (lv2 := [(4, _), (6, _), (5, _), (0, _), (1, _), (2, _), (3, _)]) dX12_fought_138 (Nat.le_of_ble_eq_true rfl) rfl ?_
      refine pm_goto (tgt := 267) dX12_fought_140 (by decide) ?_
      refine pm_goto (tgt := 38) dX12_fought_267 (by decide) ?_
      refine pm_pick [0, 3, 4, 5, 6] rfl ?_
      rw [th_faf (Int32.not_le.mp c_77)] at hQ
      rw [show th_ns (decide (a < b)) false (A 4 sb) = false from if_pos c_108] at hQ
      exact ih false _ _ _ _ hQ

theorem l_X12_fought {l : Launch} {G : pm_G} {ad : Nat → Nat → Nat} {a0 a3 a4 a5 a6 a7 : List pm_A} {a1 a2 : Nat → Option pm_A} {S : Nat → Nat} {A : Nat → Nat → Int32} {s : Nat → Int32} {B : Nat → Nat → Int32} {hs : Int64} {Q : pm_T} {a b ka kb sa sb : Nat} {sd0 : Int32} (ha : a < 8) (hb : b < 8) (hne : a ≠ b) (hka : ka ≤ 4) (hkb : kb ≤ 4) (eka : A 6 a = nI ka) (ekb : A 6 b = nI kb) (hsa : sa < 3) (hsb : sb < 3) (esa : A 7 a = nI sa) (esb : A 7 b = nI sb) : ∀ (n k : Nat) (fa : Bool) (sd tg ca cb : Int32), k + n = 50 → th_FQ ad a0 a3 a4 a5 a6 a7 a1 a2 S A s B hs Q a b (th_ft (pm_hd ka (A 8 a)) (pm_hd kb (A 8 b)) (A 4 sa) (A 4 sb) (decide (a < b)) n k fa sd tg ca cb) → pm_W l G m_X12_fought ad 38 [(4, .int (nI (if fa then a else b))), (0, .ref (ad 8 0)), (1, .int (nI a)), (2, .int (nI b)), (3, .int sd0)] [] (a0, a1, a2, a3, a4, a5, a6, a7, th_mf ad S A s B hs sd (nI k) tg ca cb) 0 0 Q := by
  intro n
  induction n with
  | zero =>
    intro k fa sd tg ca cb hk hQ
    have e : k = 50 := by omega
    subst e
    exact e_X12_fought (ka := ka) (kb := kb) (sa := sa) (sb := sb) ha hb hne hka hkb eka ekb hsa hsb esa esb hQ
  | succ n ih =>
    intro k fa sd tg ca cb hk hQ
    have ih := fun fa sd tg ca cb => ih (k + 1) fa sd tg ca cb (by omega)
    cases fa with
    | true => exact b_X12_fought_true ha hb hne hka hkb eka ekb hsa hsb esa esb (by omega) ih hQ
    | false => exact b_X12_fought_false ha hb hne hka hkb eka ekb hsa hsb esa esb (by omega) ih hQ
set_option maxHeartbeats 600000 in
set_option maxRecDepth 100000 in
theorem c_X12_fought {l : Launch} {G : pm_G} {ad : Nat → Nat → Nat} {a0 a3 a4 a5 a6 a7 : List pm_A} {a1 a2 : Nat → Option pm_A} {S : Nat → Nat} {A : Nat → Nat → Int32} {s : Nat → Int32} {B : Nat → Nat → Int32} {hs : Int64} {Q : pm_T} {a b ka kb sa sb : Nat} {sd0 : Int32} (ha : a < 8) (hb : b < 8) (hne : a ≠ b) (hka : ka ≤ 4) (hkb : kb ≤ 4) (eka : A 6 a = nI ka) (ekb : A 6 b = nI kb) (hsa : sa < 3) (hsb : sb < 3) (esa : A 7 a = nI sa) (esb : A 7 b = nI sb) (hQ : th_FQ ad a0 a3 a4 a5 a6 a7 a1 a2 S A s B hs Q a b (th_ft (pm_hd ka (A 8 a)) (pm_hd kb (A 8 b)) (A 4 sa) (A 4 sb) (decide (a < b)) 50 0 true sd0 0 (A 12 a) (A 12 b))) : pm_C l G m_X12_fought [.ref (ad 8 0), .int (nI a), .int (nI b), .int sd0] ad (a0, a1, a2, a3, a4, a5, a6, a7, th_mp ad S A s B hs) Q := by
  refine pm_met (by decide) (Nat.le_of_ble_eq_true rfl) ?_
  refine pm_aload_n dX12_fought_0 rfl rfl ?_
  refine pm_iload_n dX12_fought_1 rfl rfl ?_
  refine pm_put (w2 := (_, _, _, _, _, _, _, _, [.inr (_, [_, _, _, _, _, _, _, _, _, _, _, _, _, _, _, _, _, _, _, _, _, _, _, _, _, _, _, _, _, _, _, _, _, _, _, _, _, _, _, _, _, _, _, _]), _, _, _, _, _, _, _, _, _, _, _, _, _, _, _, _, _, _, _, _, _, _, _])) fl_RX12_165_12 fp_12_21 dX12_fought_2 rfl rfl rfl (Nat.le_of_ble_eq_true rfl) rfl ?_
  refine pm_aload_n dX12_fought_5 rfl rfl ?_
  refine pm_iconst (v := 0) dX12_fought_6 (by decide) ?_
  refine pm_put (w2 := (_, _, _, _, _, _, _, _, [.inr (_, [_, _, _, _, _, _, _, _, _, _, _, _, _, _, _, _, _, _, _, _, _, _, _, _, _, _, _, _, _, _, _, _, _, _, _, _, _, _, _, _, _, _, _, _]), _, _, _, _, _, _, _, _, _, _, _, _, _, _, _, _, _, _, _, _, _, _, _])) fl_RX12_173_12 fp_12_22 dX12_fought_7 rfl rfl rfl (Nat.le_of_ble_eq_true rfl) rfl ?_
  refine pm_aload_n dX12_fought_10 rfl rfl ?_
  refine pm_iconst (v := 0) dX12_fought_11 (by decide) ?_
  refine pm_put (w2 := (_, _, _, _, _, _, _, _, [.inr (_, [_, _, _, _, _, _, _, _, _, _, _, _, _, _, _, _, _, _, _, _, _, _, _, _, _, _, _, _, _, _, _, _, _, _, _, _, _, _, _, _, _, _, _, _]), _, _, _, _, _, _, _, _, _, _, _, _, _, _, _, _, _, _, _, _, _, _, _])) fl_RX12_176_12 fp_12_23 dX12_fought_12 rfl rfl rfl (Nat.le_of_ble_eq_true rfl) rfl ?_
  refine pm_aload_n dX12_fought_15 rfl rfl ?_
  refine pm_aload_n dX12_fought_16 rfl rfl ?_
  refine pm_get fl_RX12_43_12 dX12_fought_17 rfl rfl ?_
  refine pm_iload_n dX12_fought_20 rfl rfl ?_
  refine pm_iald dX12_fought_21 rfl (th_in ha (by decide)) ?_
  rw [th_cl (by omega)]
  refine pm_put (w2 := (_, _, _, _, _, _, _, _, [.inr (_, [_, _, _, _, _, _, _, _, _, _, _, _, _, _, _, _, _, _, _, _, _, _, _, _, _, _, _, _, _, _, _, _, _, _, _, _, _, _, _, _, _, _, _, _]), _, _, _, _, _, _, _, _, _, _, _, _, _, _, _, _, _, _, _, _, _, _, _])) fl_RX12_179_12 fp_12_24 dX12_fought_22 rfl rfl rfl (Nat.le_of_ble_eq_true rfl) rfl ?_
  refine pm_aload_n dX12_fought_25 rfl rfl ?_
  refine pm_aload_n dX12_fought_26 rfl rfl ?_
  refine pm_get fl_RX12_43_12 dX12_fought_27 rfl rfl ?_
  refine pm_iload_n dX12_fought_30 rfl rfl ?_
  refine pm_iald dX12_fought_31 rfl (th_in hb (by decide)) ?_
  rw [th_cl (by omega)]
  refine pm_put (w2 := (_, _, _, _, _, _, _, _, [.inr (_, [_, _, _, _, _, _, _, _, _, _, _, _, _, _, _, _, _, _, _, _, _, _, _, _, _, _, _, _, _, _, _, _, _, _, _, _, _, _, _, _, _, _, _, _]), _, _, _, _, _, _, _, _, _, _, _, _, _, _, _, _, _, _, _, _, _, _, _])) fl_RX12_182_12 fp_12_25 dX12_fought_32 rfl rfl rfl (Nat.le_of_ble_eq_true rfl) rfl ?_
  refine pm_iload_n dX12_fought_35 rfl rfl ?_
  refine pm_istore (lv2 := [(4, _), (0, _), (1, _), (2, _), (3, _)]) dX12_fought_36 (Nat.le_of_ble_eq_true rfl) rfl ?_
  exact l_X12_fought ha hb hne hka hkb eka ekb hsa hsb esa esb 50 0 true sd0 0 (A 12 a) (A 12 b) rfl hQ

