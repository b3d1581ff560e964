/-! THE CLAIM OUT OF ONE WALK OF THE LAW'S BODY. Your part is whole_start (and what it stands on); all else here is the same for every law, but numbers. -/
def R_law : String := "PrayerTailingsLaw"
def lw_P (b : Addr) (xs : List Int32) (args : Array Value) (s : State) : Prop := args = #[.ref b] ∧ s.IntsAt b xs ∧ xs.length ≤ 2048 ∧ (Jvm.Cond.and given_1 narrow_1).before args s = true
def lw_Q (_ : Array Value) (s : State) (o : Outcome) (t : State) : Prop := o = .returned (some (.int 1)) ∧ Framed s o t [] 600000 7302250
def lw_Z (below : List Frame) (a : Array Value) (s : State) : State → Prop := fun t => ∃ o, t.status = .running ∧ Ended t below o ∧ lw_Q a s o t
/-- the law's own end, with 1 on the stack, nothing written that was there before, its room as the claim has it -/
theorem lw_ret {p : Program} {l : Launch} {e : Env} {s : State} {m : MethodId} {below : List Frame} {meth : Method} {c : Code} {b : Nat} (hx : p.tables.exec = Jvm.exec) (hb : c.code = code) (hr : meth.sig.returnType = ret) (hlocks : meth.locks = false) {pc : Nat} {H : Heap} {ls : Array Slot} (hdg : decode code pc = .ok (.ireturn, 1)) : W p l e room_1 s m #[Value.ref b] below meth c H [] 600000 7302250 (lw_Z below #[Value.ref b] s) (F0 m pc ls [.int 1]) := by
  intro T hT X
  obtain ⟨fs, hret, hrun, hended, hW, hframe⟩ := X.leave (v := some (.int 1)) (hlocks := hlocks) (fun h => by rw [hr] at h; cases h)
  have hmeth' : T.vm.method? m = some meth := X.method'
  refine ⟨T.setFrames fs, ?_, .returned (some (.int 1)), hrun, hended, rfl, ⟨_, rfl⟩, hW, hframe⟩
  jvm_step X.here [X.here.top, hx, hb, hdg, hmeth', hr, ret, narrow_b1]
  (try refine ⟨rfl, ?_⟩); (try refine ⟨rfl, ?_⟩)
  first | (intro acts; rw [hret _ acts rfl rfl rfl]) | rw [hret _ _ rfl rfl rfl]
  exact Steps.refl _
/-- what holds at the law's entry: the machine, the code, the tables' words (any of lw_tbl by 'hts w (by decide +kernel)'), the script of L ints xs at the cell b, what the Statement gives of the start (any of its parts by flat_of_before) -/
def lw_At (p : Program) (s : State) (m : MethodId) (meth : Method) (c : Code) (b L : Nat) (xs : Nat → Int32) : Prop :=
  p.tables.exec = Jvm.exec ∧ c.code = code ∧ meth.sig.returnType = ret ∧ c.maxLocals = 4 ∧ s.vm.findClass R_law = some m.cls ∧ (∀ w ∈ lw_tbl, w.before #[Value.ref b] s = true) ∧ va_X b L xs s s.heap ∧ b < s.heap.size ∧ meth.locks = false ∧ (Jvm.Cond.and given_1 narrow_1).before #[Value.ref b] s = true
-- ===== YOUR PART BEGINS =====
section XST
variable {G : xG} {R : xR} {L : xL} {I : xI}
theorem GV.m0 : GV 0 0 m0 := by
  refine ⟨fun k _ h => hs_zz h, fun k _ h => hs_zz h, fun c _ => ⟨0, Nat.zero_le _, rfl⟩, fun c _ => ⟨0, Nat.zero_le _, rfl⟩, fun c _ => ⟨0, Nat.zero_le _, rfl⟩, fun c _ _ => ⟨rfl, rfl⟩, fun c _ => ⟨0, Nat.zero_le _, rfl⟩, 0, rfl, ?_⟩
  show 0 + oS (fun _ => 0) 12 ≤ 108
  decide
/-- both sides agree before the first event -/
theorem J_start (hf : Fr G 0 R L I) : JI G (TW 134) G.2.2.1 (G.2.2.1 + 122) 0 (ri3 G.2.2.1 (riX G.2.2.1 R)) L (xst (iiX G.2.2.1 I) (G.2.2.1 + 122) 4 (nI 1)) := by
  have hX := XS.init (G := G) (R := R) (R2 := ri3 G.2.2.1 (riX G.2.2.1 R)) (fun a ha => ri3_o (by omega))
  have h1 := hf.X
  have eo : ∀ a, a ≠ G.2.2.1 + 122 → xst (iiX G.2.2.1 I) (G.2.2.1 + 122) 4 (nI 1) a = iiX G.2.2.1 I a := fun a h => xst_o h
  have z : ∀ a k, G.2.2.1 + 122 < a → xst (iiX G.2.2.1 I) (G.2.2.1 + 122) 4 (nI 1) a k = 0 := fun a k h => by rw [eo a (by omega)]; exact (h1 a k (by omega)).2.2
  have zx : ∀ k, xst (iiX G.2.2.1 I) (G.2.2.1 + 122) 4 (nI 1) G.2.2.1 k = 0 := fun k => by rw [eo _ (by omega), iiX_x hf]
  have zm : ∀ k, k ≠ 4 → xst (iiX G.2.2.1 I) (G.2.2.1 + 122) 4 (nI 1) (G.2.2.1 + 122) k = 0 := fun k h => by rw [xst_s, upd_n h]; exact (h1 _ k (by omega)).2.2
  have e4 : xst (iiX G.2.2.1 I) (G.2.2.1 + 122) 4 (nI 1) (G.2.2.1 + 122) 4 = nI 1 := by rw [xst_s, upd_s]
  have em : mS (xst (iiX G.2.2.1 I) (G.2.2.1 + 122) 4 (nI 1)) (G.2.2.1 + 9) = m0 := by rw [mS_cg (I := iiX G.2.2.1 I) (fun j hj => eo _ (by omega)), iiX_now hf]
  generalize xst (iiX G.2.2.1 I) (G.2.2.1 + 122) 4 (nI 1) = I2 at eo z zx zm e4 em ⊢
  refine ⟨rfl, hX.1, XM.init, 0, 0, 0, 0, id, ⟨zm 0 (by omega), zm 5 (by omega), ?_⟩, ⟨zx 1, zm 2 (by omega), Nat.zero_le _, fun j hj => absurd hj (Nat.not_lt_zero _)⟩, ⟨zx 7, zm 16 (by omega), Nat.zero_le _, hX.2, fun j hj => absurd hj (Nat.not_lt_zero _)⟩, fun s hs2 => ?_, ⟨zx 12, zm 19 (by omega), Nat.zero_le _, fun j hj => absurd hj (Nat.not_lt_zero _)⟩, ?_⟩
  · rw [em, e4]
    refine ⟨⟨⟨rfl, Nat.zero_le _, ?_⟩, ⟨1, by omega, rfl⟩, fun j hj => absurd hj (Nat.not_lt_zero _)⟩, GV.m0, ⟨fun c _ => z _ _ (by omega), fun c _ => z _ _ (by omega), fun c _ => z _ _ (by omega), fun c _ => z _ _ (by omega), fun j hj => absurd hj (Nat.not_lt_zero _), z _ _ (by omega), z _ _ (by omega), z _ _ (by omega), z _ _ (by omega)⟩, rfl⟩
    unfold WP
    omega
  · have hz : hs (I2 G.2.2.1 9) (nI s) = false := by rw [zx]; exact hs_zz (by omega)
    rw [hz, z _ _ (by omega)]
    exact ⟨rfl, fun w => by cases w⟩
  · rw [(hf _ 13 (by omega)).2.1, (hf _ 14 (by omega)).2.1]
set_option maxHeartbeats 4000000 in
set_option maxRecDepth 100000 in
/-- the law's first instructions: the two players -/
theorem P_L_0 (hls : G.2.2.2.2.2.1 ≤ 2048) (hf : Fr G 0 R L I) : xV G YL (TW 0) (TW 134, fun v _ _ _ => v = some (.int (nI 1))) 0 [some (.ref G.2.2.2.2.1), none, none, none] [] (TW 0) R L I := by
  refine tV_new (n := 0) (no := 134) e_L_law_0 n_L_7 rfl (fun k => hf _ k (by omega)) (by omega) (by omega) (by omega) rfl ?_
  rw [Nat.add_zero]
  refine xV_dup e_L_law_3 rfl ?_
  refine xV_cI0v e_L_law_4 c_L_9 (C_X2_init hf) (Nat.le_of_ble_eq_true rfl) ⟨(Nat.le_of_ble_eq_true rfl), (Nat.le_of_ble_eq_true rfl)⟩ (TW_le (by omega) (by omega)) (TW_le (by omega) (by omega)) ?_
  refine xV_astore_n e_L_law_7 (Nat.le_of_ble_eq_true rfl) rfl ?_
  refine tV_new (n := 122) (no := 134) e_L_law_8 n_L_10 rfl (fun k => hf.X _ k (by omega)) (by omega) (by omega) (by omega) rfl ?_
  refine xV_dup e_L_law_11 rfl ?_
  refine xV_cI0v e_L_law_12 c_L_12 (C_X3_init hf.X) (Nat.le_of_ble_eq_true rfl) ⟨(Nat.le_of_ble_eq_true rfl), (Nat.le_of_ble_eq_true rfl)⟩ (TW_le (by omega) (by omega)) (TW_le (by omega) (by omega)) ?_
  refine xV_astore_n e_L_law_15 (Nat.le_of_ble_eq_true rfl) rfl ?_
  refine xV_iconst (v := nI 0) e_L_law_16 (by decide) ?_
  refine xV_istore_n e_L_law_17 (Nat.le_of_ble_eq_true rfl) rfl ?_
  exact P_L_18 hls (G.2.2.2.2.2.1 + 4) 0 0 _ _ _ (by omega) (by omega) (by omega) (J_start hf)
end XST
theorem xnest_tbl : ∀ w ∈ xnest, w ∈ lw_tbl ∧ w.onTables = true := by decide +kernel
set_option maxHeartbeats 4000000 in
set_option maxRecDepth 100000 in
/-- what every state of the walk stands on, from the start's words -/
theorem x_cx {p : Program} {s : State} {m : MethodId} {meth : Method} {c : Code} {b L : Nat} {xs : Nat → Int32} (C0 : lw_At p s m meth c b L xs) : ∃ (D : va_G) (cs : ClassId × ClassId × ClassId) (near : Nat), xCx ((D, cs, s.heap.size, near, (b, L, xs)) : xG) s := by
  obtain ⟨hx, hb, hr, hml, hown, hts, hX, hbl, hlocks, hgv⟩ := C0
  have htW : ∀ w ∈ xW, w.before #[Value.ref b] s = true := fun w hw => hts w (List.mem_filter.mp hw).1
  obtain ⟨c0, iS0, hKn0⟩ := u_known (C := RX0) (T := TX0) (N := 12) (n := 12) htW xin0 (htW _ n_X2_20.2.2.1)
  obtain ⟨c1, iS1, hKn1⟩ := u_known (C := RX1) (T := TX1) (N := 4) (n := 4) htW xin1 (htW _ n_X2_13.2.2.1)
  obtain ⟨c2, iS2, hKn2⟩ := u_known (C := RX2) (T := TX2) (N := 14) (n := 14) htW xin2 (htW _ n_L_7.2.2.1)
  obtain ⟨c3, iS3, hKn3⟩ := u_known (C := RX3) (T := TX3) (N := 24) (n := 24) htW xin3 (htW _ n_L_10.2.2.1)
  have hov : (Cond.arrayOver (.object RX0)).before #[Value.ref b] s = true := hts _ (by decide +kernel)
  obtain ⟨cI, kI, pI, i1, i2, i3⟩ := Cond.arrayClass_spec (htW _ n_int)
  obtain ⟨cZ, kZ, pZ, z1, z2, z3⟩ := Cond.arrayClass_spec (htW _ n_boolean)
  obtain ⟨pQ, cQ, kQ, q1, q2, q3, q4, q5⟩ := Cond.arrayOver_spec hov
  have hs := flat_of_before _ hgv
  have hel : ∀ j : Nat, j < 12 → (Cond.eq (.elem (.static RX2 "NEAR" "[I") (.int (Int32.ofNat j))) (.int (xnear j))).before #[Value.ref b] s = true := by
    intro j hj
    match j, hj with
    | 0, _ => exact hs _ (by decide +kernel)
    | 1, _ => exact hs _ (by decide +kernel)
    | 2, _ => exact hs _ (by decide +kernel)
    | 3, _ => exact hs _ (by decide +kernel)
    | 4, _ => exact hs _ (by decide +kernel)
    | 5, _ => exact hs _ (by decide +kernel)
    | 6, _ => exact hs _ (by decide +kernel)
    | 7, _ => exact hs _ (by decide +kernel)
    | 8, _ => exact hs _ (by decide +kernel)
    | 9, _ => exact hs _ (by decide +kernel)
    | 10, _ => exact hs _ (by decide +kernel)
    | 11, _ => exact hs _ (by decide +kernel)
    | k + 12, h => exact absurd h (by omega)
  have hA : ∀ a : Nat, a < s.heap.size → ¬ (fun q : Nat => s.heap.size ≤ q) a := fun a h z => absurd h (Nat.not_lt.mpr z)
  obtain ⟨near, hev, hT⟩ := va_Tof (tm := .static RX2 "NEAR" "[I") (ty := .int) (N := 12) (f := fun j => .int (xnear j)) (A := fun q : Nat => s.heap.size ≤ q) (by decide) (hs (.arrayOf (.static RX2 "NEAR" "[I") .int) (by decide +kernel)) (va_eqt (hs (.eq (.length (.static RX2 "NEAR" "[I")) (.int (Int32.ofNat 12))) (by decide +kernel))) (fun j hj => va_eqt (hel j hj)) hA
  have hZ := va_Zref (A := fun q : Nat => s.heap.size ≤ q) (hts (.laysStatic RX2 "NEAR" "[I") (by decide +kernel)) (hts (.initialized RX2) (by decide +kernel)) hev hA
  obtain ⟨scr, s1, s2, s3, s4, s5⟩ := hX
  refine ⟨(fun k => if k = 0 then c0 else if k = 1 then c1 else if k = 2 then c2 else c3, fun k => if k = 0 then iS0 else if k = 1 then iS1 else if k = 2 then iS2 else iS3), (cI, cZ, cQ), near, Nat.le_refl _, ⟨?_, ?_⟩, hZ, hT, ⟨scr, s1, s2, s3, Nat.le_of_eq s4.symm, by rw [s4], s5, hA b hbl⟩, fun w hw => va_Nw.of (xnest_tbl w hw).2 (hts w (xnest_tbl w hw).1), va_AO.of hov⟩
  · intro k q hq
    match k, hq with
    | 0, hq => cases hq; exact hKn0
    | 1, hq => cases hq; exact hKn1
    | 2, hq => cases hq; exact hKn2
    | 3, hq => cases hq; exact hKn3
    | k + 4, hq => simp [vwCl] at hq
  · intro k q hq
    match k, hq with
    | 0, hq => cases hq; exact ⟨fun n z => ⟨fun k h => (by cases h), kI, i2, pI, i3⟩, i1⟩
    | 1, hq => cases hq; exact ⟨fun n z => ⟨fun k h => (by cases h), kZ, z2, pZ, z3⟩, z1⟩
    | 2, hq => cases hq; exact ⟨fun n z => ⟨fun k h => (by cases h), kQ, q3, pQ, q4⟩, kQ, pQ, q3, q4, q1, q5⟩
    | k + 3, hq => simp [xtys] at hq
theorem TW_all : (TW 134).length - (TW 0).length ≤ 600000 ∧ xZ (TW 134) - xZ (TW 0) ≤ 7302250 := by decide +kernel
set_option maxHeartbeats 4000000 in
set_option maxRecDepth 100000 in
/-- THE LAW, from its entry -/
theorem whole_start {p : Program} {e : Env} {s : State} {m : MethodId} {below : List Frame} {meth : Method} {c : Code} (l : Launch) (hflags : l.flags = flags0) {b L : Nat} {xs : Nat → Int32} (hL : L ≤ 2048) (C0 : lw_At p s m meth c b L xs) : W p l e room_1 s m #[Value.ref b] below meth c s.heap [] 0 0 (lw_Z below #[Value.ref b] s) (entryFrame m ([Value.ref b] : List Value).toArray 4) := by
  obtain ⟨D, cs, near, hC⟩ := x_cx C0
  obtain ⟨hx, hb, hr, hml, hown, hts, hX, hbl, hlocks, hgv⟩ := C0
  have hl := lv_entry ([.ref b]) (n := 4) (Nat.le_of_ble_eq_true rfl)
  rw [lg_entry_eq]
  generalize (lg_sl ([.ref b]) ++ List.replicate (4 - (lg_sl ([.ref b])).length) Slot.unset).toArray = ls at hl ⊢
  have hl : lv_has ls 4 (xe 0 [some (.ref b), none, none, none]) := hl
  have key := P_L_0 (G := ((D, cs, s.heap.size, near, (b, L, xs)) : xG)) (R := fun _ _ => none) (L := fun _ _ => 0) (I := fun _ _ => 0) hL (fun _ _ _ => ⟨rfl, rfl, rfl⟩) p l e room_1 s m #[Value.ref b] below meth c s.heap [] (lw_Z below #[Value.ref b] s) ls
    ⟨hx, hb, hml, hown, fun w hw => hts w (List.mem_filter.mp hw).1, fun z => absurd z (by decide), rfl, hC⟩ ⟨rfl, rfl, TW_all.1, TW_all.2⟩ hl rfl ⟨Nat.le_refl _, fun k q hq => by simp [xads, va_pl, TW] at hq⟩ va_S.rf
    (fun H locs ls1 pc v R1 L1 I1 hd hv ho hR hS => by
      have ho : v = some (.int (nI 1)) := ho
      subst ho
      refine va_forget (fun q hq => hS.2.2 q hq) ?_
      refine W.widen (k := 600000) (n := 7302250) TW_all.1 TW_all.2 ?_
      exact lw_ret hx hb hr hlocks hd)
  rw [Nat.sub_self, Nat.sub_self] at key
  exact key
-- ===== YOUR PART ENDS =====
set_option maxHeartbeats 4000000 in
theorem lw_walk (l : Launch) (hflags : l.flags = flags0) (b : Addr) (xs : List Int32) : MetFree l x (headSpec (Jvm.Cond.code x code maxLocals ret :: tables_1) room_1) (lw_P b xs) (fun _ _ _ _ _ => True) lw_Q := by
  refine MetFree.of_bodyS (code := code) (maxLocals := maxLocals) (ret := ret) (by decide) ?_ ?_
  · intro args s m h hn
    obtain ⟨meth, c, h1, h2, h3, h4, h5, h6, -, -⟩ := Cond.code_spec hn (atoms_spec (ws := Jvm.Cond.code x code maxLocals ret :: tables_1) h _ List.mem_cons_self)
    exact ⟨meth, c, h1, h2, h3, h4, h5, h6⟩
  · intro p e s m args below meth c s₁ B hml0 hP _
    obtain ⟨rfl, hx, hbd, hgv⟩ := hP
    obtain ⟨scr, harrAt, hlist, hof, hsmall⟩ := hx
    obtain ⟨hcb, hkn, -, -⟩ := State.arrayAt?_spec harrAt
    have hown : s.vm.findClass R_law = some m.cls := findClass_of_methodNamed B.named
    have hts0 : ∀ c ∈ (Jvm.Cond.code x code maxLocals ret :: tables_1), c.before #[Value.ref b] s = true := atoms_spec (ws := Jvm.Cond.code x code maxLocals ret :: tables_1) B.pre
    have hts : ∀ w ∈ lw_tbl, w.before #[Value.ref b] s = true := k2_hts_sels lw_privs (fun w hw => hts0 w (List.mem_cons_of_mem _ hw)) lw_privs_ok
    have hml : c.maxLocals = 4 := B.maxLocals_eq (hts0 _ List.mem_cons_self)
    have X₀ : Stand p l e room_1 s m #[Value.ref b] below meth c s₁ [] 0 0 := Stand.of_body B
    have hh0 : s₁.heap = s.heap := by rw [B.state]; rfl
    have hsz : scr.slots.size = xs.length := by rw [← Array.length_toList, hlist, List.length_map]
    have hval : ∀ j : Nat, j < xs.length → scr.slots[j]? = some (.int (xs.getD j 0)) := fun j hj => by
      rw [← Array.getElem?_toList, hlist]
      simp [hj]
    have hbl : b < s.heap.size := (Array.getElem?_eq_some_iff.mp hcb).1
    have hX : va_X b xs.length (fun j => xs.getD j 0) s s.heap := ⟨scr, hcb, hof, hkn, hsz, hval⟩
    have K : W p l e room_1 s m #[Value.ref b] below meth c s₁.heap [] 0 0 (lw_Z below #[Value.ref b] s) (entryFrame m ([Value.ref b] : List Value).toArray 4) := by
      rw [hh0]
      exact whole_start l hflags hbd ⟨B.exec, B.bytes, B.returns, hml, hown, hts, hX, hbl, B.notSynchronized, hgv⟩
    obtain ⟨t, a1, o, b1, b2, b3⟩ := K s₁ rfl X₀
    exact ⟨t, o, a1, b1, b2, b3⟩
theorem lw_pre_spec {args : Array Value} {s : State} (h : (Jvm.Cond.and given_1 narrow_1).before args s = true) (hr : rest_1_c.before args s = true) : ∃ (b : Addr) (xs : List Int32), lw_P b xs args s := by
  have hs := flat_of_before _ h
  have hq := flat_of_before _ hr
  have hc : (Cond.count 1).before args s = true := hs _ (by decide +kernel)
  have harr : (Cond.arrayOf (.arg 0) .int).before args s = true := hs _ (by decide +kernel)
  have hle : (Cond.le (.length (.arg 0)) (.int 2048)).before args s = true := hs _ (by decide +kernel)
  have hlen : (Cond.isInt (.length (.arg 0))).before args s = true := hq _ (by decide +kernel)
  have hall : (Cond.all (.arg 0) (.isInt (.elem (.arg 0) (.index 0)))).before args s = true := hq _ (by decide +kernel)
  obtain ⟨b, xs, hb, hx⟩ := State.ints_of_pre rfl harr hlen hall
  have hsm : xs.length < 2 ^ 31 := hx.choose_spec.2.2.2
  have hev : (Term.length (.arg 0)).eval args s none [] s = some (.int xs.length.toInt32) := hx.length_eval hb
  have hv := Cond.le_ints hev (show (Term.int 2048).eval args s none [] s = some (.int 2048) from rfl)
  have hd : xs.length.toInt32 ≤ 2048 := by
    simpa [Cond.before, Cond.holds, hv] using hle
  have hN : xs.length ≤ 2048 := (Int32.ofNat_le_ofNat hsm (by decide)).mp (show Int32.ofNat xs.length ≤ Int32.ofNat 2048 from hd)
  exact ⟨b, xs, Cond.one_arg hc (show args[0]? = some (.ref b) from hb), hx, hN, h⟩
theorem lw_comes (l : Launch) (hflags : l.flags = flags0) : Comes l x (Jvm.Cond.code x code maxLocals ret :: tables_1) room_1 (fun tb e args s => Calls_1 tb e args s ∧ rest_1 tb e args s ∧ Pre_1 tb e args s)
    (fun _ _ args s o t => lw_Q args s o t) := by
  intro p e ha hc hk s m args below hf hfit hheap happ hpre
  obtain ⟨b, xs, hP⟩ := lw_pre_spec hpre.2.2 hpre.2.1
  obtain ⟨k, o, h1, h2, h3, hQ⟩ := lw_walk l hflags b xs p e ha hc hk s m args below hf ((Spec.applies_iff_loose hf).mp happ).1 hP trivial
  exact ⟨k, o, h1, h2, h3, hQ⟩
theorem lw_frame {s t : State} {o : Outcome} {args : Array Value} (h : Framed s o t [] 600000 7302250) :
    Framed s o t (fieldLocs frame_1_writes args s ++ arrayLocs frame_1_arrays args s ++ staticLocs frame_1_statics s) 600000 7302250 := h
theorem lw_limb (L : Cond) (hL : ∀ (args : Array Value) (s t : State), L.after args s (.returned (some (.int 1))) t = true) :
    ArmFor flags0 classFile x code maxLocals ret World_1 tables_1 room_1 Calls_1 rest_1 Pre_1
      (fun tb e a s o t => postC L tb e a s o t ∧ Framed s o t (fieldLocs frame_1_writes a s ++ arrayLocs frame_1_arrays a s ++ staticLocs frame_1_statics s) 600000 7302250) := by
  intro l hflags _ _ p e ha hc hk s m args below hf hfit hheap happ hpre
  obtain ⟨k, o, h1, h2, h3, rfl, hF⟩ := lw_comes l hflags p e ha hc hk s m args below hf hfit hheap happ hpre
  exact ⟨k, _, h1, h2, h3, hL args s _, lw_frame hF⟩
theorem i_vc : Claimed_1_1 ∧ Claimed_1_2 := ⟨lw_limb limb_1_1 (fun args s t => by simp [limb_1_1, Cond.after, Cond.holds, Cond.value]), lw_limb limb_1_2 (fun args s t => Cond.after_iff.mpr (by
  first | (rw [show limb_1_2 = Cond.eq .result (.int 1) from rfl, Cond.eq_ints (x := 1) (y := 1) rfl rfl]; simp; done) | (simp [limb_1_2, Cond.value, Term.eval]; done)))⟩
