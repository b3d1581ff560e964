/-! PRAYERTAILINGS: see, write, the text read, psalms, the best -/
section XPS
variable {G : xG} {T : xT} {R : xR} {L : xL} {I : xI}
theorem xst_o {I : xI} {a k b : Nat} {v : Int32} (h : b ≠ a) : xst I a k v b = I b := by unfold xst; rw [va_up_n h]
theorem xst_s {I : xI} {a k : Nat} {v : Int32} : xst I a k v a = upd (I a) k v := by unfold xst; rw [va_up_s]
theorem va_up_own {α : Type} {f : Nat → α} {k : Nat} : va_up f k (f k) = f := by
  funext j
  by_cases e : j = k
  · subst e; simp [va_up]
  · simp [va_up, e]
-- see
def bSee (seen : Nat) (c d : Int32) : Bool := bCell c && (!decide (d < 0) && (decide (d ≤ nI 100) && decide (seen < 6)))
def qSee (seen : Nat) (c d : Int32) : Int32 := if bCell c = true then (if d < 0 then (-2) else if d ≤ nI 100 then (if seen < 6 then nI (seen + 1) else (-4)) else (-2)) else (-1)
def iSee (I : xI) (x n : Nat) (c d : Int32) : xI := xst (xst (xst I (x + 24) n c) (x + 25) n d) x 12 (nI (n + 1))
set_option maxHeartbeats 4000000 in
set_option maxRecDepth 100000 in
theorem C_X2_see {x : Nat} (hX : XS G T R x) {n : Nat} (hn6 : I x 12 = nI n) (hn : n ≤ 6) {c d : Int32} : xCon G Y_X2_see [.ref x, .int c, .int d] T R L I (xD (some (.int (qSee n c d))) T R L (if bSee n c d = true then iSee I x n c d else I)) := by
  obtain ⟨x0, xt, xts, xr, hrd, xn, hn, xtr, htr, xs, xss, xp, xps, xq, xqs, xqr, xqm, xc, xcs, xo, xos, hpool⟩ := id hX
  obtain ⟨n0, nr0, nr1, nr2, nr3, nr4, ns1, ns2, ns3, ns4, ns5⟩ := id hn
  have t0 := htr.1
  have d0 := hrd.1
  refine xCon.mk (xl := [some (.ref x), some (.int c), some (.int d)]) (by decide +kernel) (xle_r _) rfl (Nat.le_of_ble_eq_true rfl) rfl ?_
  refine xV_iload_n e_X2_see_0 rfl ?_
  refine xV_cS1i e_X2_see_1 c_X2_95 (C_X2_isCell) (Nat.le_of_ble_eq_true rfl) ⟨(Nat.le_of_ble_eq_true rfl), (Nat.le_of_ble_eq_true rfl)⟩ (xle_r _) (xle_r _) ?_
  refine xV_if_neB e_X2_see_4 (fun h4 => ?_) (fun h4 => ?_)
  · refine xV_iload_n e_X2_see_9 rfl ?_
    refine xV_if_lt e_X2_see_10 (fun h10 => ?_) (fun h10 => ?_)
    · refine xV_bipush (v := (-2)) e_X2_see_19 (by decide) ?_
      exact xV_ireturn e_X2_see_21 rfl rfl ⟨by rw [qSee, if_pos h4, if_pos h10], rfl, rfl, by rw [if_neg (by simp [bSee, h4, h10])]⟩
    · refine xV_iload_n e_X2_see_13 rfl ?_
      refine xV_bipush (v := (nI 100)) e_X2_see_14 (by decide) ?_
      refine xV_icmp_le e_X2_see_16 (fun h16 => ?_) (fun h16 => ?_)
      · refine xV_aload_n e_X2_see_22 rfl ?_
        refine xV_getI e_X2_see_23 f_X2_92 (by assumption) ?_
        rw [hn6]
        refine xV_bipush (v := (nI 6)) e_X2_see_26 (by decide) ?_
        refine xV_icmp_ltN e_X2_see_28 (by omega) (by omega) (fun h28 => ?_) (fun h28 => ?_)
        · refine xV_aload_n e_X2_see_34 rfl ?_
          refine xV_getR e_X2_see_35 f_X2_40 (by assumption) (by assumption) ?_
          refine xV_aload_n e_X2_see_38 rfl ?_
          refine xV_getI e_X2_see_39 f_X2_92 (by assumption) ?_
          rw [hn6]
          refine xV_iload_n e_X2_see_42 rfl ?_
          refine xV_cS3v e_X2_see_43 c_X2_50 (C_X2_putN xcs (by omega) (by omega)) (Nat.le_of_ble_eq_true rfl) ⟨(Nat.le_of_ble_eq_true rfl), (Nat.le_of_ble_eq_true rfl)⟩ (xle_r _) (xle_r _) ?_
          refine xV_aload_n e_X2_see_46 rfl ?_
          refine xV_getR e_X2_see_47 f_X2_43 (by assumption) (by assumption) ?_
          refine xV_aload_n e_X2_see_50 rfl ?_
          refine xV_getI e_X2_see_51 f_X2_92 (by assumption) ?_
          have e1 : (xst I (x + 24) n c) x 12 = nI n := by rw [xst_o (by omega)]; exact hn6
          rw [e1]
          refine xV_iload_n e_X2_see_54 rfl ?_
          refine xV_cS3v e_X2_see_55 c_X2_50 (C_X2_putN xos (by omega) (by omega)) (Nat.le_of_ble_eq_true rfl) ⟨(Nat.le_of_ble_eq_true rfl), (Nat.le_of_ble_eq_true rfl)⟩ (xle_r _) (xle_r _) ?_
          refine xV_aload_n e_X2_see_58 rfl ?_
          refine xV_dup e_X2_see_59 rfl ?_
          refine xV_getI e_X2_see_60 f_X2_92 (by assumption) ?_
          have e2 : (xst (xst I (x + 24) n c) (x + 25) n d) x 12 = nI n := by rw [xst_o (by omega), xst_o (by omega)]; exact hn6
          rw [e2]
          refine xV_iconst (v := (nI 1)) e_X2_see_63 (by decide) ?_
          refine xV_iaddN e_X2_see_64 ?_
          refine xV_putI e_X2_see_65 p_X2_92 (by assumption) ?_
          refine xV_aload_n e_X2_see_68 rfl ?_
          refine xV_getI e_X2_see_69 f_X2_92 (by assumption) ?_
          rw [show xst (xst (xst I (x + 24) n c) (x + 25) n d) x 12 (nI (n + 1)) = iSee I x n c d from rfl, show iSee I x n c d x 12 = nI (n + 1) from by unfold iSee; rw [xst_s]; rfl]
          exact xV_ireturn e_X2_see_72 rfl rfl ⟨by rw [qSee, if_pos h4, if_neg h10, if_pos h16, if_pos h28], rfl, rfl, by rw [if_pos (by simp only [bSee, h4, decide_eq_false h10, decide_eq_true h16, decide_eq_true h28]; rfl)]⟩
        · refine xV_bipush (v := (-4)) e_X2_see_31 (by decide) ?_
          exact xV_ireturn e_X2_see_33 rfl rfl ⟨by rw [qSee, if_pos h4, if_neg h10, if_pos h16, if_neg (show ¬ n < 6 by omega)], rfl, rfl, by rw [if_neg (by simp [bSee, show ¬ n < 6 by omega])]⟩
      · refine xV_bipush (v := (-2)) e_X2_see_19 (by decide) ?_
        exact xV_ireturn e_X2_see_21 rfl rfl ⟨by rw [qSee, if_pos h4, if_neg h10, if_neg h16], rfl, rfl, by rw [if_neg (by simp [bSee, decide_eq_false h16])]⟩
  · refine xV_iconst (v := (-1)) e_X2_see_7 (by decide) ?_
    exact xV_ireturn e_X2_see_8 rfl rfl ⟨by rw [qSee, if_neg (by rw [h4]; decide)], rfl, rfl, by rw [if_neg (by simp [bSee, h4])]⟩
-- write
def bv (v : Int64) (j : Nat) : Int32 := ((v.toUInt64 >>> ((nI (8 * j)).toInt64.toUInt64 &&& Int64.toUInt64 63)).toInt64).toInt32 &&& nI 255
def tW (t : Nat → Int32) (len n : Nat) (v : Int64) : Nat → Nat → Int32
  | 0 => t
  | i + 1 => upd (tW t len n v i) (len + i) (bv v (n - 1 - i))
def iW (I : xI) (x len n : Nat) (v : Int64) (i : Nat) : xI := va_up (va_up I (x + 1) (tW (I (x + 1)) len n v i)) x (upd (I x) 1 (nI (len + i)))
theorem iW_0 {I : xI} {x len n : Nat} {v : Int64} (h : I x 1 = nI len) : iW I x len n v 0 = I := by
  unfold iW
  rw [tW, va_up_own, Nat.add_zero, ← h, upd_own, va_up_own]
theorem iW_x {I : xI} {x len n i : Nat} {v : Int64} : iW I x len n v i x = upd (I x) 1 (nI (len + i)) := by rw [iW, va_up_s]
theorem iW_t {I : xI} {x len n i : Nat} {v : Int64} : iW I x len n v i (x + 1) = tW (I (x + 1)) len n v i := by rw [iW, va_up_n (by omega), va_up_s]
theorem iW_s {I : xI} {x len n i : Nat} {v : Int64} : xst (xst (iW I x len n v i) (x + 1) (len + i) (bv v (n - 1 - i))) x 1 (nI (len + i + 1)) = iW I x len n v (i + 1) := by
  funext a
  by_cases e : a = x
  · subst e
    rw [xst_s, xst_o (by omega), iW_x, iW_x, upd_twice]
    rfl
  · rw [xst_o e]
    by_cases e1 : a = x + 1
    · subst e1
      rw [xst_s, iW_t, iW_t, tW]
    · rw [xst_o e1]
      simp only [iW, va_up_n e, va_up_n e1]
def lf (k : Nat) : Int32 := nI k - nI 1
theorem lf_s (k : Nat) : lf (k + 1) = nI k := by unfold lf; rw [pk_sub (by omega)]; rfl
theorem lf_m (k : Nat) : nI k + Int32.ofInt (-1) = lf k := by
  unfold lf
  rw [Int32.sub_eq_add_neg]
  rfl
theorem lf_0 : lf 0 < 0 := by decide
def bW (len : Nat) (n : Int32) : Bool := decide (1 ≤ n.toNatClampNeg ∧ n.toNatClampNeg ≤ 8 ∧ len + n.toNatClampNeg ≤ 72)
def qWrite (len : Nat) (n : Int32) : Int32 := if n < nI 1 then (-2) else if n ≤ nI 8 then (if len + n.toNatClampNeg ≤ 72 then nI (len + n.toNatClampNeg) else (-4)) else (-2)
set_option maxHeartbeats 4000000 in
set_option maxRecDepth 100000 in
theorem P_X2_write_33 {x : Nat} (hX : XS G T R x) {len n : Nat} {v : Int64} (hl : I x 1 = nI len) (hb : len + n ≤ 72) : ∀ k, k ≤ n → xV G Y_X2_write T (xD (some (.int (nI (len + n)))) T R L (iW I x len n v n)) 33 [some (.ref x), some (.int (nI n)), some (.long v), none, some (.int (lf (n - k)))] [] T R L (iW I x len n v k) := by
  obtain ⟨x0, xt, xts, xr, hrd, xn, hn, xtr, htr, xs, xss, xp, xps, xq, xqs, xqr, xqm, xc, xcs, xo, xos, hpool⟩ := id hX
  obtain ⟨n0, nr0, nr1, nr2, nr3, nr4, ns1, ns2, ns3, ns4, ns5⟩ := id hn
  have t0 := htr.1
  have d0 := hrd.1
  refine xloop (n) (fun k hk0 ih => ?_)
  have hcase : (k = n ∧ lf (n - k) < 0) ∨ (k < n ∧ lf (n - k) = nI (n - k - 1)) := by
    by_cases e : k = n
    · exact Or.inl ⟨e, by rw [e, Nat.sub_self]; exact lf_0⟩
    · refine Or.inr ⟨by omega, ?_⟩
      rw [show n - k = (n - k - 1) + 1 by omega, lf_s]
      rfl
  refine xV_iload e_X2_write_33 rfl ?_
  refine xV_if_lt e_X2_write_35 (fun h35 => ?_) (fun h35 => ?_)
  · have hkn : k = n := by
      rcases hcase with z | z
      · exact z.1
      · rw [z.2] at h35
        exact absurd h35 (nI_pos (by omega))
    subst hkn
    refine xV_aload_n e_X2_write_77 rfl ?_
    refine xV_getI e_X2_write_78 f_X2_46 (by assumption) ?_
    have e4 : iW I x len k v k x 1 = nI (len + k) := by rw [iW_x]; rfl
    rw [e4]
    exact xV_ireturn e_X2_write_81 rfl rfl ⟨rfl, rfl, rfl, rfl⟩
  · have hkn : k < n ∧ lf (n - k) = nI (n - k - 1) := by
      rcases hcase with z | z
      · exact absurd z.2 h35
      · exact z
    rw [hkn.2]
    have hlt := hkn.1
    refine xV_aload_n e_X2_write_38 rfl ?_
    refine xV_getR e_X2_write_39 f_X2_9 (by assumption) (by assumption) ?_
    refine xV_aload_n e_X2_write_42 rfl ?_
    refine xV_getI e_X2_write_43 f_X2_46 (by assumption) ?_
    have e1 : iW I x len n v k x 1 = nI (len + k) := by rw [iW_x]; rfl
    rw [e1]
    refine xV_lload_n e_X2_write_46 rfl ?_
    refine xV_bipush (v := (nI 8)) e_X2_write_47 (by decide) ?_
    refine xV_iload e_X2_write_49 rfl ?_
    refine xV_imulN e_X2_write_51 ?_
    refine xV_lushr e_X2_write_52 ?_
    refine xV_l2i e_X2_write_53 ?_
    refine xV_sipush (v := (nI 255)) e_X2_write_54 (by decide) ?_
    refine xV_iand e_X2_write_57 ?_
    have eb : ((v.toUInt64 >>> ((nI (8 * (n - k - 1))).toInt64.toUInt64 &&& Int64.toUInt64 63)).toInt64).toInt32 &&& nI 255 = bv v (n - 1 - k) := by unfold bv; rw [show n - k - 1 = n - 1 - k by omega]
    rw [eb]
    refine xV_cS3v e_X2_write_58 c_X2_50 (C_X2_putN xts (by omega) (by omega)) (Nat.le_of_ble_eq_true rfl) ⟨(Nat.le_of_ble_eq_true rfl), (Nat.le_of_ble_eq_true rfl)⟩ (xle_r _) (xle_r _) ?_
    refine xV_aload_n e_X2_write_61 rfl ?_
    refine xV_dup e_X2_write_62 rfl ?_
    refine xV_getI e_X2_write_63 f_X2_46 (by assumption) ?_
    have e2 : xst (iW I x len n v k) (x + 1) (len + k) (bv v (n - 1 - k)) x 1 = nI (len + k) := by rw [xst_o (by omega)]; exact e1
    rw [e2]
    refine xV_iconst (v := (nI 1)) e_X2_write_66 (by decide) ?_
    refine xV_iaddN e_X2_write_67 ?_
    refine xV_putI e_X2_write_68 p_X2_46 (by assumption) ?_
    rw [iW_s]
    refine xV_iinc e_X2_write_71 rfl rfl rfl ?_
    refine xV_goto e_X2_write_74 ?_
    have e3 : nI (n - k - 1) + Int32.ofInt (-1) = lf (n - (k + 1)) := by rw [lf_m, Nat.sub_sub]
    rw [e3]
    exact ih (by omega)
theorem n_of {n : Int32} {m : Nat} (hm : m < 2 ^ 31) (h : ¬ n < nI 1) (h2 : n ≤ nI m) : n = nI n.toNatClampNeg ∧ 1 ≤ n.toNatClampNeg ∧ n.toNatClampNeg ≤ m := by
  have h1 := Int32.le_iff_toInt_le.mp (Int32.not_lt.mp h)
  have h3 := Int32.le_iff_toInt_le.mp h2
  rw [nI_toInt (by decide)] at h1
  rw [nI_toInt hm] at h3
  have e : n = nI n.toNatClampNeg := by
    apply Int32.toInt_inj.mp
    show n.toInt = (nI n.toInt.toNat).toInt
    rw [nI_toInt (by omega)]
    omega
  refine ⟨e, ?_, ?_⟩
  · show 1 ≤ n.toInt.toNat
    omega
  · show n.toInt.toNat ≤ m
    omega
theorem nI_lit_lt (n : Nat) (hn : n < 2 ^ 31) (h : 1 ≤ n) : ¬ nI n < nI 1 := fun z => absurd ((nI_ltI hn (by decide)).mp z) (by omega)
set_option maxHeartbeats 4000000 in
set_option maxRecDepth 100000 in
theorem C_X2_writeOk {x : Nat} (hX : XS G T R x) {len n : Nat} {v : Int64} (hl : I x 1 = nI len) (h1n : 1 ≤ n) (h8 : n ≤ 8) (hb : len + n ≤ 72) : xCon G Y_X2_write [.ref x, .int (nI n), .long v] T R L I (xD (some (.int (nI (len + n)))) T R L (iW I x len n v n)) := by
  obtain ⟨x0, xt, xts, xr, hrd, xn, hn, xtr, htr, xs, xss, xp, xps, xq, xqs, xqr, xqm, xc, xcs, xo, xos, hpool⟩ := id hX
  obtain ⟨n0, nr0, nr1, nr2, nr3, nr4, ns1, ns2, ns3, ns4, ns5⟩ := id hn
  have t0 := htr.1
  have d0 := hrd.1
  refine xCon.mk (xl := [some (.ref x), some (.int (nI n)), some (.long v), none, none]) (by decide +kernel) (xle_r _) rfl (Nat.le_of_ble_eq_true rfl) rfl ?_
  refine xV_iload_n e_X2_write_0 rfl ?_
  refine xV_iconst (v := (nI 1)) e_X2_write_1 (by decide) ?_
  refine xV_icmp_ltN e_X2_write_2 (by omega) (by omega) (fun h2 => ?_) (fun h2 => ?_)
  · exact absurd h2 (by omega)
  · refine xV_iload_n e_X2_write_5 rfl ?_
    refine xV_bipush (v := (nI 8)) e_X2_write_6 (by decide) ?_
    refine xV_icmp_leN e_X2_write_8 (by omega) (by omega) (fun h8 => ?_) (fun h8 => ?_)
    · refine xV_aload_n e_X2_write_14 rfl ?_
      refine xV_getI e_X2_write_15 f_X2_46 (by assumption) ?_
      rw [hl]
      refine xV_iload_n e_X2_write_18 rfl ?_
      refine xV_iaddN e_X2_write_19 ?_
      refine xV_bipush (v := (nI 72)) e_X2_write_20 (by decide) ?_
      refine xV_icmp_leN e_X2_write_22 (by omega) (by omega) (fun h22 => ?_) (fun h22 => ?_)
      · refine xV_iload_n e_X2_write_28 rfl ?_
        refine xV_iconst (v := (nI 1)) e_X2_write_29 (by decide) ?_
        refine xV_isub e_X2_write_30 ?_
        refine xV_istore e_X2_write_31 (Nat.le_of_ble_eq_true rfl) rfl ?_
        have q := P_X2_write_33 (L := L) (v := v) hX hl hb 0 (Nat.zero_le _)
        rw [iW_0 hl] at q
        exact xV_sub (xl' := [some (.ref x), some (.int (nI n)), some (.long v), none, some (.int (nI n - nI 1))]) ⟨rfl, rfl, rfl, rfl, trivial⟩ q
      · exact absurd h22 (by omega)
    · exact absurd h8 (by omega)
set_option maxHeartbeats 4000000 in
set_option maxRecDepth 100000 in
theorem C_X2_writeFull {x : Nat} (hX : XS G T R x) {len n : Nat} {v : Int64} (hl : I x 1 = nI len) (hl2 : len ≤ 72) (h1n : 1 ≤ n) (hn8 : n ≤ 8) (hb : 72 < len + n) : xCon G Y_X2_write [.ref x, .int (nI n), .long v] T R L I (xD (some (.int (-4))) T R L I) := by
  obtain ⟨x0, xt, xts, xr, hrd, xn, hn, xtr, htr, xs, xss, xp, xps, xq, xqs, xqr, xqm, xc, xcs, xo, xos, hpool⟩ := id hX
  obtain ⟨n0, nr0, nr1, nr2, nr3, nr4, ns1, ns2, ns3, ns4, ns5⟩ := id hn
  have t0 := htr.1
  have d0 := hrd.1
  refine xCon.mk (xl := [some (.ref x), some (.int (nI n)), some (.long v), none, none]) (by decide +kernel) (xle_r _) rfl (Nat.le_of_ble_eq_true rfl) rfl ?_
  refine xV_iload_n e_X2_write_0 rfl ?_
  refine xV_iconst (v := (nI 1)) e_X2_write_1 (by decide) ?_
  refine xV_icmp_ltN e_X2_write_2 (by omega) (by omega) (fun h2 => ?_) (fun h2 => ?_)
  · exact absurd h2 (by omega)
  · refine xV_iload_n e_X2_write_5 rfl ?_
    refine xV_bipush (v := (nI 8)) e_X2_write_6 (by decide) ?_
    refine xV_icmp_leN e_X2_write_8 (by omega) (by omega) (fun h8 => ?_) (fun h8 => ?_)
    · refine xV_aload_n e_X2_write_14 rfl ?_
      refine xV_getI e_X2_write_15 f_X2_46 (by assumption) ?_
      rw [hl]
      refine xV_iload_n e_X2_write_18 rfl ?_
      refine xV_iaddN e_X2_write_19 ?_
      refine xV_bipush (v := (nI 72)) e_X2_write_20 (by decide) ?_
      refine xV_icmp_leN e_X2_write_22 (by omega) (by omega) (fun h22 => ?_) (fun h22 => ?_)
      · exact absurd h22 (by omega)
      · refine xV_bipush (v := (-4)) e_X2_write_25 (by decide) ?_
        exact xV_ireturn e_X2_write_27 rfl rfl ⟨rfl, rfl, rfl, rfl⟩
    · exact absurd h8 (by omega)
set_option maxHeartbeats 4000000 in
set_option maxRecDepth 100000 in
theorem C_X2_writeBad {x : Nat} (hX : XS G T R x) {n : Int32} {v : Int64} (hb : n < nI 1 ∨ ¬ n ≤ nI 8) : xCon G Y_X2_write [.ref x, .int n, .long v] T R L I (xD (some (.int (-2))) T R L I) := by
  obtain ⟨x0, xt, xts, xr, hrd, xn, hn, xtr, htr, xs, xss, xp, xps, xq, xqs, xqr, xqm, xc, xcs, xo, xos, hpool⟩ := id hX
  obtain ⟨n0, nr0, nr1, nr2, nr3, nr4, ns1, ns2, ns3, ns4, ns5⟩ := id hn
  have t0 := htr.1
  have d0 := hrd.1
  refine xCon.mk (xl := [some (.ref x), some (.int n), some (.long v), none, none]) (by decide +kernel) (xle_r _) rfl (Nat.le_of_ble_eq_true rfl) rfl ?_
  refine xV_iload_n e_X2_write_0 rfl ?_
  refine xV_iconst (v := (nI 1)) e_X2_write_1 (by decide) ?_
  refine xV_icmp_lt e_X2_write_2 (fun h2 => ?_) (fun h2 => ?_)
  · refine xV_bipush (v := (-2)) e_X2_write_11 (by decide) ?_
    exact xV_ireturn e_X2_write_13 rfl rfl ⟨rfl, rfl, rfl, rfl⟩
  · refine xV_iload_n e_X2_write_5 rfl ?_
    refine xV_bipush (v := (nI 8)) e_X2_write_6 (by decide) ?_
    refine xV_icmp_le e_X2_write_8 (fun h8 => ?_) (fun h8 => ?_)
    · exact absurd h8 (hb.resolve_left h2)
    · refine xV_bipush (v := (-2)) e_X2_write_11 (by decide) ?_
      exact xV_ireturn e_X2_write_13 rfl rfl ⟨rfl, rfl, rfl, rfl⟩
end XPS
