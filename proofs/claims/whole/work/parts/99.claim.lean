theorem pm_none (g k : Nat) (c : pm_A) : ¬ pm_get? ([], (fun _ => none), (fun _ => none), [], [], [], [], [], []) g k = some c := match g, k with
  | 0, k => by simp [pm_get?]
  | 1, k => by simp [pm_get?]
  | 2, k => by simp [pm_get?]
  | 3, k => by simp [pm_get?]
  | 4, k => by simp [pm_get?]
  | 5, k => by simp [pm_get?]
  | 6, k => by simp [pm_get?]
  | 7, k => by simp [pm_get?]
  | 8, k => by simp [pm_get?]
  | n + 9, k => by simp [pm_get?]
def R_law : String := "ThirtyNineLaw"
def lw_P (b : Addr) (xs : List Int32) (args : Array Value) (s : State) : Prop := args = #[.ref b] ∧ s.IntsAt b xs ∧ xs.length ≤ 448 ∧ (Jvm.Cond.and given_1 narrow_1).before args s = true
def lw_Q (_ : Array Value) (s : State) (o : Outcome) (t : State) : Prop := o = .returned (some (.int 1)) ∧ Framed s o t [] 600000 7302250
def lw_Z (below : List Frame) (a : Array Value) (s : State) : State → Prop := fun t => ∃ o, t.status = .running ∧ Ended t below o ∧ lw_Q a s o t
def lw_At (p : Program) (s : State) (m : MethodId) (meth : Method) (c : Code) (b L : Nat) (xs : Nat → Int32) : Prop :=
  p.tables.exec = Jvm.exec ∧ c.code = code ∧ meth.sig.returnType = ret ∧ c.maxLocals = 4 ∧ s.vm.findClass R_law = some m.cls ∧ (∀ w ∈ lw_tbl, w.before #[Value.ref b] s = true) ∧ va_X b L xs s s.heap ∧ b < s.heap.size ∧ meth.locks = false ∧ (Jvm.Cond.and given_1 narrow_1).before #[Value.ref b] s = true ∧ meth.name = x.name
theorem lw_conv {p : Program} {l : Launch} {e : Env} {s : State} {m : MethodId} {below : List Frame} {meth : Method} {c : Code} {b : Nat} {H : Heap} {locs : List Loc} {cs ss : Nat} {G : pm_G} {g : JFrame} (hG : G.2.2.1 = s.heap.size) (K : W p l e room_1 s m #[Value.ref b] below meth c H locs cs ss (MQ below (pm_Q G (fun _ v _ => v = some (.int 1))) #[Value.ref b] s 600000 7302250 (pm_P G)) g) : W p l e room_1 s m #[Value.ref b] below meth c H locs cs ss (lw_Z below #[Value.ref b] s) g := by
  intro T hT X
  obtain ⟨t, st, oo, hrun, hend, ⟨⟨ad, v, w, ho, hv, -⟩, -⟩, L, ⟨hret, hwarm, hsame⟩, hfree⟩ := K T hT X
  refine ⟨t, st, oo, hrun, hend, ?_, hret, hwarm, ?_⟩
  · rw [ho, hv]
  · exact State.sameButNew.drop_fresh (L := []) (J := L) hsame (fun q hq => by
      have h := hfree q hq
      have h : G.2.2.1 ≤ q.base := h
      rw [hG] at h
      exact h)
theorem lw_classes {s : State} {args : Array Value} (htb : ∀ w ∈ pm_tb, w.before args s = true) : ∃ D : va_G, ∀ (c : Nat) (q : vw_C), vwCl[c]? = some q → u_Kn s q.1 q.2.1 q.2.2 (D.1 c) (D.2 c) := by
  obtain ⟨c0, i0, k0⟩ := u_known (C := RX0) (T := TX0) (N := 13) (n := 13) (ws := pm_tb) htb (pm_CLw cl_0 rfl) (htb _ kw_457)
  obtain ⟨c1, i1, k1⟩ := u_known (C := RX1) (T := TX1) (N := 6) (n := 6) (ws := pm_tb) htb (pm_CLw cl_1 rfl) (htb _ kw_138)
  obtain ⟨c2, i2, k2⟩ := u_known (C := RX2) (T := TX2) (N := 4) (n := 4) (ws := pm_tb) htb (pm_CLw cl_2 rfl) (htb _ kw_218)
  obtain ⟨c3, i3, k3⟩ := u_known (C := RX3) (T := TX3) (N := 8) (n := 8) (ws := pm_tb) htb (pm_CLw cl_3 rfl) (htb _ kw_166)
  obtain ⟨c4, i4, k4⟩ := u_known (C := RX4) (T := TX4) (N := 13) (n := 13) (ws := pm_tb) htb (pm_CLw cl_4 rfl) (htb _ kw_516)
  obtain ⟨c5, i5, k5⟩ := u_known (C := RX5) (T := TX5) (N := 13) (n := 13) (ws := pm_tb) htb (pm_CLw cl_5 rfl) (htb _ kw_386)
  obtain ⟨c6, i6, k6⟩ := u_known (C := RX6) (T := TX6) (N := 6) (n := 6) (ws := pm_tb) htb (pm_CLw cl_6 rfl) (htb _ kw_71)
  obtain ⟨c7, i7, k7⟩ := u_known (C := RX7) (T := TX7) (N := 13) (n := 13) (ws := pm_tb) htb (pm_CLw cl_7 rfl) (htb _ kw_497)
  obtain ⟨c8, i8, k8⟩ := u_known (C := RX8) (T := TX8) (N := 13) (n := 13) (ws := pm_tb) htb (pm_CLw cl_8 rfl) (htb _ kw_477)
  obtain ⟨c9, i9, k9⟩ := u_known (C := RX9) (T := TX9) (N := 3) (n := 3) (ws := pm_tb) htb (pm_CLw cl_9 rfl) (htb _ kw_200)
  obtain ⟨c10, i10, k10⟩ := u_known (C := RX10) (T := TX10) (N := 8) (n := 8) (ws := pm_tb) htb (pm_CLw cl_10 rfl) (htb _ kw_77)
  obtain ⟨c11, i11, k11⟩ := u_known (C := RX11) (T := TX11) (N := 12) (n := 12) (ws := pm_tb) htb (pm_CLw cl_11 rfl) (htb _ kw_63)
  obtain ⟨c12, i12, k12⟩ := u_known (C := RX12) (T := TX12) (N := 44) (n := 44) (ws := pm_tb) htb (pm_CLw cl_12 rfl) (htb _ kw_953)
  refine ⟨(fun k => match k with
    | 0 => c0
    | 1 => c1
    | 2 => c2
    | 3 => c3
    | 4 => c4
    | 5 => c5
    | 6 => c6
    | 7 => c7
    | 8 => c8
    | 9 => c9
    | 10 => c10
    | 11 => c11
    | _ => c12, fun k => match k with
    | 0 => i0
    | 1 => i1
    | 2 => i2
    | 3 => i3
    | 4 => i4
    | 5 => i5
    | 6 => i6
    | 7 => i7
    | 8 => i8
    | 9 => i9
    | 10 => i10
    | 11 => i11
    | _ => i12), ?_⟩
  intro c q hq
  exact match c, hq with
    | 0, hq => by cases hq; exact k0
    | 1, hq => by cases hq; exact k1
    | 2, hq => by cases hq; exact k2
    | 3, hq => by cases hq; exact k3
    | 4, hq => by cases hq; exact k4
    | 5, hq => by cases hq; exact k5
    | 6, hq => by cases hq; exact k6
    | 7, hq => by cases hq; exact k7
    | 8, hq => by cases hq; exact k8
    | 9, hq => by cases hq; exact k9
    | 10, hq => by cases hq; exact k10
    | 11, hq => by cases hq; exact k11
    | 12, hq => by cases hq; exact k12
    | n + 13, hq => absurd hq (by simp [vwCl])
theorem lw_arr {s : State} {args : Array Value} {ty : FieldType} (h : (Cond.arrayClass ty).before args s = true) (hn : ∀ C, ty ≠ .object C) : ∃ c, ArrOfT s c ty ∧ va_RA s c ty := by
  obtain ⟨cA, kA, comp, h1, h2, h3⟩ := Cond.arrayClass_spec h
  refine ⟨cA, fun n z => ⟨fun k h => (by cases h), kA, h2, comp, h3⟩, ?_⟩
  cases ty <;> first | exact h1 | exact absurd rfl (hn _)
theorem lw_arq {s : State} {C : String} (h : va_AO C s) : ∃ c, ArrOfT s c (.object C) ∧ va_RA s c (.object C) := by
  obtain ⟨comp, cA, kA, h1, -, h2, h3, h4⟩ := Cond.arrayOver_spec h
  exact ⟨cA, fun n z => ⟨fun k h => (by cases h), kA, h2, comp, h3⟩, kA, comp, h2, h3, h1, h4⟩
theorem lw_ao1 : Cond.arrayOver (.object "ThirtyNine$School") ∈ lw_tbl := by decide +kernel
theorem lw_ao2 : Cond.arrayOver (.object "ThirtyNine$Nut") ∈ lw_tbl := by decide +kernel
set_option maxHeartbeats 4000000 in
theorem lw_N {s : State} {b : Nat} (hts : ∀ w ∈ lw_tbl, w.before #[Value.ref b] s = true) (hgv : (Jvm.Cond.and given_1 narrow_1).before #[Value.ref b] s = true) : pm_N s := by
  have hs := flat_of_before _ hgv
  refine ⟨fun w hw => ?_, va_AO.of (hts _ lw_ao1), va_AO.of (hts _ lw_ao2), ?_⟩
  · have h2 := (List.mem_filter.mp hw).2
    have h1 := hts w (List.mem_filter.mp hw).1
    exact va_tabs (by cases w <;> first | rfl | (simp [pm_isN] at h2; done)) rfl h1
  · unfold pm_nc
    refine List.forall_mem_cons.mpr ⟨va_Nc.of (hs _ (by decide +kernel)), ?_⟩
    repeat (refine List.forall_mem_cons.mpr ⟨va_Nc.of (hs _ (by decide +kernel)), ?_⟩)
    exact fun _ h => absurd h List.not_mem_nil
theorem whole_start {p : Program} {e : Env} {s : State} {m : MethodId} {below : List Frame} {meth : Method} {c : Code} (l : Launch) {b L : Nat} {xs : Nat → Int32} (hL : L ≤ 448) (C0 : lw_At p s m meth c b L xs) : W p l e room_1 s m #[Value.ref b] below meth c s.heap [] 0 0 (lw_Z below #[Value.ref b] s) (entryFrame m ([Value.ref b] : List Value).toArray 4) := by
  obtain ⟨hx, hb, hr, hml, hown, hts, hX, hbl, hlocks, hgv, hname⟩ := C0
  have htb : ∀ w ∈ pm_tb, w.before #[Value.ref b] s = true := fun w hw => hts w (pm_tb_in hw)
  have hN := lw_N hts hgv
  obtain ⟨D, hD⟩ := lw_classes htb
  obtain ⟨a0, A0⟩ := lw_arr (htb _ kw_112) (fun C => by simp)
  obtain ⟨a1, A1⟩ := lw_arr (htb _ kw_216) (fun C => by simp)
  obtain ⟨a2, A2⟩ := lw_arr (htb _ kw_1091) (fun C => by simp)
  obtain ⟨a3, A3⟩ := lw_arq hN.2.1
  obtain ⟨a4, A4⟩ := lw_arq hN.2.2.1
  have hK : pm_K (D, (fun k => match k with | 0 => a0 | 1 => a1 | 2 => a2 | 3 => a3 | _ => a4), s.heap.size, b, L, xs) s := by
    refine ⟨⟨hD, fun k q hq => ?_⟩, Nat.le_refl _, hN, hbl, hX⟩
    exact match k, hq with
    | 0, hq => by cases hq; exact A0
    | 1, hq => by cases hq; exact A1
    | 2, hq => by cases hq; exact A2
    | 3, hq => by cases hq; exact A3
    | 4, hq => by cases hq; exact A4
    | n + 5, hq => absurd hq (by simp [pm_tys])
  generalize hG : ((D, (fun k => match k with | 0 => a0 | 1 => a1 | 2 => a2 | 3 => a3 | _ => a4), s.heap.size, b, L, xs) : pm_G) = G at hK
  have g1 : G.2.2.1 = s.heap.size := by rw [← hG]
  have g2 : G.2.2.2.1 = b := by rw [← hG]
  have g3 : G.2.2.2.2.1 = L := by rw [← hG]
  have hl := lv_entry [Value.ref b] (n := 4) (Nat.le_of_ble_eq_true rfl)
  rw [lg_entry_eq]
  refine lw_conv g1 ?_
  have hS := g_start (l := l) (G := G) (ad := fun _ _ => 0) (Q := fun _ v _ => v = some (.int 1)) (by rw [g3]; exact hL) (fun _ _ => rfl)
  rw [g2] at hS
  refine hS p e s m #[Value.ref b] below meth c ⟨hx, hb, hr, hml, hown, htb, hlocks, hname, hK⟩ s.heap [] _ ⟨fun g k c h => ?_, fun g k c g' k' c' h => ?_⟩ va_S.rf hl
  · exact absurd h (pm_none g k c)
  · exact absurd h (pm_none g k c)
set_option maxHeartbeats 4000000 in
theorem lw_walk (l : Launch) (b : Addr) (xs : List Int32) : MetFree l x (headSpec (Jvm.Cond.code x code maxLocals ret :: tables_1) room_1) (lw_P b xs) (fun _ _ _ _ _ => True) lw_Q := by
  refine MetFree.of_bodyS (code := code) (maxLocals := maxLocals) (ret := ret) (by decide) ?_ ?_
  · intro args s m h hn
    obtain ⟨meth, c, h1, h2, h3, h4, h5, h6, -, -⟩ := Cond.code_spec hn (atoms_spec (ws := Jvm.Cond.code x code maxLocals ret :: tables_1) h _ List.mem_cons_self)
    exact ⟨meth, c, h1, h2, h3, h4, h5, h6⟩
  · intro p e s m args below meth c s₁ B hml0 hP _
    obtain ⟨rfl, hx, hbd, hgv⟩ := hP
    obtain ⟨scr, harrAt, hlist, hof, hsmall⟩ := hx
    obtain ⟨hcb, hkn, -, -⟩ := State.arrayAt?_spec harrAt
    have hown : s.vm.findClass R_law = some m.cls := findClass_of_methodNamed B.named
    have hts0 : ∀ c ∈ (Jvm.Cond.code x code maxLocals ret :: tables_1), c.before #[Value.ref b] s = true := atoms_spec (ws := Jvm.Cond.code x code maxLocals ret :: tables_1) B.pre
    have hts : ∀ w ∈ lw_tbl, w.before #[Value.ref b] s = true := k2_hts_sels lw_privs (fun w hw => hts0 w (List.mem_cons_of_mem _ hw)) lw_privs_ok
    have hml : c.maxLocals = 4 := B.maxLocals_eq (hts0 _ List.mem_cons_self)
    have X₀ : Stand p l e room_1 s m #[Value.ref b] below meth c s₁ [] 0 0 := Stand.of_body B
    have hh0 : s₁.heap = s.heap := by rw [B.state]; rfl
    have hsz : scr.slots.size = xs.length := by rw [← Array.length_toList, hlist, List.length_map]
    have hval : ∀ j : Nat, j < xs.length → scr.slots[j]? = some (.int (xs.getD j 0)) := fun j hj => by
      rw [← Array.getElem?_toList, hlist]
      simp [hj]
    have hbl : b < s.heap.size := (Array.getElem?_eq_some_iff.mp hcb).1
    have hX : va_X b xs.length (fun j => xs.getD j 0) s s.heap := ⟨scr, hcb, hof, hkn, hsz, hval⟩
    have K : W p l e room_1 s m #[Value.ref b] below meth c s₁.heap [] 0 0 (lw_Z below #[Value.ref b] s) (entryFrame m ([Value.ref b] : List Value).toArray 4) := by
      rw [hh0]
      exact whole_start l hbd ⟨B.exec, B.bytes, B.returns, hml, hown, hts, hX, hbl, B.notSynchronized, hgv, (name_of_methodNamed B.named B.method).1⟩
    obtain ⟨t, a1, o, b1, b2, b3⟩ := K s₁ rfl X₀
    exact ⟨t, o, a1, b1, b2, b3⟩
theorem lw_pre_spec {args : Array Value} {s : State} (h : (Jvm.Cond.and given_1 narrow_1).before args s = true) (hr : rest_1_c.before args s = true) : ∃ (b : Addr) (xs : List Int32), lw_P b xs args s := by
  have hs := flat_of_before _ h
  have hq := flat_of_before _ hr
  have hc : (Cond.count 1).before args s = true := hs _ (by decide +kernel)
  have harr : (Cond.arrayOf (.arg 0) .int).before args s = true := hs _ (by decide +kernel)
  have hle : (Cond.le (.length (.arg 0)) (.int 448)).before args s = true := hs _ (by decide +kernel)
  have hlen : (Cond.isInt (.length (.arg 0))).before args s = true := hq _ (by decide +kernel)
  have hall : (Cond.all (.arg 0) (.isInt (.elem (.arg 0) (.index 0)))).before args s = true := hq _ (by decide +kernel)
  obtain ⟨b, xs, hb, hx⟩ := State.ints_of_pre rfl harr hlen hall
  have hsm : xs.length < 2 ^ 31 := hx.choose_spec.2.2.2
  have hev : (Term.length (.arg 0)).eval args s none [] s = some (.int xs.length.toInt32) := hx.length_eval hb
  have hv := Cond.le_ints hev (show (Term.int 448).eval args s none [] s = some (.int 448) from rfl)
  have hd : xs.length.toInt32 ≤ 448 := by
    simpa [Cond.before, Cond.holds, hv] using hle
  have hN : xs.length ≤ 448 := (Int32.ofNat_le_ofNat hsm (by decide)).mp (show Int32.ofNat xs.length ≤ Int32.ofNat 448 from hd)
  exact ⟨b, xs, Cond.one_arg hc (show args[0]? = some (.ref b) from hb), hx, hN, h⟩
theorem lw_comes (l : Launch) : Comes l x (Jvm.Cond.code x code maxLocals ret :: tables_1) room_1 (fun tb e args s => Calls_1 tb e args s ∧ rest_1 tb e args s ∧ Pre_1 tb e args s)
    (fun _ _ args s o t => lw_Q args s o t) := by
  intro p e ha hc hk s m args below hf hfit hheap happ hpre
  obtain ⟨b, xs, hP⟩ := lw_pre_spec hpre.2.2 hpre.2.1
  obtain ⟨k, o, h1, h2, h3, hQ⟩ := lw_walk l b xs p e ha hc hk s m args below hf ((Spec.applies_iff_loose hf).mp happ).1 hP trivial
  exact ⟨k, o, h1, h2, h3, hQ⟩
theorem lw_frame {s t : State} {o : Outcome} {args : Array Value} (h : Framed s o t [] 600000 7302250) :
    Framed s o t (fieldLocs frame_1_writes args s ++ arrayLocs frame_1_arrays args s ++ staticLocs frame_1_statics s) 600000 7302250 := h
theorem lw_limb (L : Cond) (hL : ∀ (args : Array Value) (s t : State), L.after args s (.returned (some (.int 1))) t = true) :
    ArmFor flags0 classFile x code maxLocals ret World_1 tables_1 room_1 Calls_1 rest_1 Pre_1
      (fun tb e a s o t => postC L tb e a s o t ∧ Framed s o t (fieldLocs frame_1_writes a s ++ arrayLocs frame_1_arrays a s ++ staticLocs frame_1_statics s) 600000 7302250) := by
  intro l _ _ _ p e ha hc hk s m args below hf hfit hheap happ hpre
  obtain ⟨k, o, h1, h2, h3, rfl, hF⟩ := lw_comes l p e ha hc hk s m args below hf hfit hheap happ hpre
  exact ⟨k, _, h1, h2, h3, hL args s _, lw_frame hF⟩
theorem i_vc : Claimed_1_1 ∧ Claimed_1_2 := ⟨lw_limb limb_1_1 (fun args s t => by simp [limb_1_1, Cond.after, Cond.holds, Cond.value]), lw_limb limb_1_2 (fun args s t => Cond.after_iff.mpr (by
  first | (rw [show limb_1_2 = Cond.eq .result (.int 1) from rfl, Cond.eq_ints (x := 1) (y := 1) rfl rfl]; simp; done) | (simp [limb_1_2, Cond.value, Term.eval]; done)))⟩
