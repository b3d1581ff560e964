/-! PRAYERTAILINGS: the acts, undo, the slots -/
section XPY
variable {G : xG} {T : xT} {R : xR} {L : xL} {I : xI}
theorem RemP.now {x na : Nat} {p p2 : Nat → Nat} {R2 : xR} {J : xI} (h : RemP x na p R I p2 R2 J) : mS J (x + 9) = mS I (x + 9) := by
  unfold mS
  rw [h.2.2.2.1 (x + 9) (by omega) (by omega), h.2.2.2.1 (x + 9 + 1) (by omega) (by omega), h.2.2.2.1 (x + 9 + 2) (by omega) (by omega), h.2.2.2.1 (x + 9 + 3) (by omega) (by omega), h.2.2.2.1 (x + 9 + 4) (by omega) (by omega), h.2.2.2.1 (x + 9 + 5) (by omega) (by omega)]
theorem RemP.pm {x na : Nat} {p p2 : Nat → Nat} {R2 : xR} {J : xI} (h : RemP x na p R I p2 R2 J) : J = pm J (x + 9) (I (x + 9), I (x + 9 + 1), I (x + 9 + 2), I (x + 9 + 3), I (x + 9 + 4), I (x + 9 + 5)) := by
  have e : mS J (x + 9) = (I (x + 9), I (x + 9 + 1), I (x + 9 + 2), I (x + 9 + 3), I (x + 9 + 4), I (x + 9 + 5)) := h.now
  rw [← e, pm_self]
/-- behind an act: what remember does, then a new mine -/
def ActP (x na : Nat) (p : Nat → Nat) (R : xR) (I : xI) (S : xS) (R2 : xR) (I2 : xI) : Prop := ∃ p2 J, RemP x na p R I p2 R2 J ∧ I2 = pm J (x + 9) S
def ePray (S : xS) (m : Int32) : Int32 := if bMonk S.1 m = true then (if bLiv S.1 m = true then 0 else (-3)) else (-1)
def eOath (S : xS) (m : Int32) : Int32 := if bMonk S.1 m = true then (if bLiv S.1 m = true ∧ hs (S.1 9) (xat 4 S.2.2.2.2.2 m) = false then (if xat 12 S.2.2.2.1 (xat 4 S.2.2.2.2.2 m) < nI 9 then 0 else (-4)) else (-3)) else (-1)
def eWalk (S : xS) (m c : Int32) : Int32 := if bMonk S.1 m = true ∧ bCell c = true then (if bLiv S.1 m = true ∧ hs (xat 12 xnear (xat 4 S.2.2.2.2.2 m)) c = true then 0 else (-3)) else (-1)
def vOath (S : xS) (m : Int32) : Int32 := xat 12 S.2.2.2.1 (xat 4 S.2.2.2.2.2 m) + nI 1
def gOath (S : xS) (m : Int32) : xS := (S.1, S.2.1, S.2.2.1, upB 12 S.2.2.2.1 (xat 4 S.2.2.2.2.2 m) (vOath S m), S.2.2.2.2.1, S.2.2.2.2.2)
def vDoubt (S : xS) (m : Int32) : Int32 := if nI 0 < xat 12 S.2.2.1 (xat 4 S.2.2.2.2.2 m) - nI 1 then xat 12 S.2.2.1 (xat 4 S.2.2.2.2.2 m) - nI 1 else nI 0
def gDoubt (S : xS) (m : Int32) : xS := (S.1, S.2.1, upB 12 S.2.2.1 (xat 4 S.2.2.2.2.2 m) (vDoubt S m), S.2.2.2.1, S.2.2.2.2.1, S.2.2.2.2.2)
def gWalk (S : xS) (m c : Int32) : xS := (S.1, S.2.1, S.2.2.1, S.2.2.2.1, S.2.2.2.2.1, upB 4 S.2.2.2.2.2 m c)
def vWalk (mo : Nat) (S : xS) (m c : Int32) : Int32 := (vOn (upB 4 S.2.2.2.2.2 m c) (nI 1 <<< (c &&& 31)) mo &&& vLiv S.1) &&& ((nI 1 <<< (m &&& 31)) ^^^ (-1))
set_option maxHeartbeats 4000000 in
set_option maxRecDepth 100000 in
theorem C_X2_pray {x : Nat} (hX : XS G T R x) {mo na : Nat} {p : Nat → Nat} (hk : MOK mo (mS I (x + 9))) (ha : I x 7 = nI na) (hna : na ≤ 14) (hp : PastR R x p) {m : Int32} : xCon G Y_X2_pray [.ref x, .int m] T R L I ((T, fun v R2 L2 I2 => ∃ r, v = some (.int r) ∧ (L2 = L ∧ ((ePray (mS I (x + 9)) m = 0 ∧ r = vPr mo (mS I (x + 9)) m.toNatClampNeg ∧ ActP x na p R I (gPr mo (mS I (x + 9)) m.toNatClampNeg) R2 I2) ∨ (¬ ePray (mS I (x + 9)) m = 0 ∧ r = ePray (mS I (x + 9)) m ∧ R2 = R ∧ I2 = I))))) := by
  obtain ⟨x0, xt, xts, xr, hrd, xn, hn, xtr, htr, xs, xss, xp, xps, xq, xqs, xqr, xqm, xc, xcs, xo, xos, hpool⟩ := id hX
  obtain ⟨n0, nr0, nr1, nr2, nr3, nr4, ns1, ns2, ns3, ns4, ns5⟩ := id hn
  have t0 := htr.1
  have d0 := hrd.1
  refine xCon.mk (xl := [some (.ref x), some (.int m)]) (by decide +kernel) (xle_r _) rfl (Nat.le_of_ble_eq_true rfl) rfl ?_
  refine xV_aload_n e_X2_pray_0 rfl ?_
  refine xV_getR e_X2_pray_1 f_X2_23 (by assumption) (by assumption) ?_
  refine xV_iload_n e_X2_pray_4 rfl ?_
  refine xV_cV1i e_X2_pray_5 c_X2_122 (by assumption) (G_X0_isMonk (by assumption)) (Nat.le_of_ble_eq_true rfl) ⟨(Nat.le_of_ble_eq_true rfl), (Nat.le_of_ble_eq_true rfl)⟩ (xle_r _) (xle_r _) ?_
  refine xV_if_neB e_X2_pray_8 (fun h8 => ?_) (fun h8 => ?_)
  · refine xV_aload_n e_X2_pray_13 rfl ?_
    refine xV_getR e_X2_pray_14 f_X2_23 (by assumption) (by assumption) ?_
    refine xV_iload_n e_X2_pray_17 rfl ?_
    refine xV_cV1i e_X2_pray_18 c_X2_134 (by assumption) (G_X0_isLiving (by assumption)) (Nat.le_of_ble_eq_true rfl) ⟨(Nat.le_of_ble_eq_true rfl), (Nat.le_of_ble_eq_true rfl)⟩ (xle_r _) (xle_r _) ?_
    refine xV_if_neB e_X2_pray_21 (fun h21 => ?_) (fun h21 => ?_)
    · refine xV_aload_n e_X2_pray_27 rfl ?_
      refine xV_cV0vP e_X2_pray_28 c_X2_137 (by assumption) (C_X2_remember hX ha hna hp) (Nat.le_of_ble_eq_true rfl) ⟨(Nat.le_of_ble_eq_true rfl), (Nat.le_of_ble_eq_true rfl)⟩ (xle_r _) (xle_r _) (fun R2 L2 J hq => ?_)
      obtain ⟨rfl, p2, hr⟩ := hq
      have hX2 := hX.R2 hr.2.1
      obtain ⟨x0, xt, xts, xr, hrd, xn, hn, xtr, htr, xs, xss, xp, xps, xq, xqs, xqr, xqm, xc, xcs, xo, xos, hpool⟩ := id hX2
      obtain ⟨n0, nr0, nr1, nr2, nr3, nr4, ns1, ns2, ns3, ns4, ns5⟩ := id hn
      have t0 := htr.1
      have d0 := hrd.1
      rw [hr.pm]
      refine xV_aload_n e_X2_pray_31 rfl ?_
      refine xV_getR e_X2_pray_32 f_X2_23 (by assumption) (by assumption) ?_
      refine xV_iload_n e_X2_pray_35 rfl ?_
      refine xV_cV1i e_X2_pray_36 c_X2_140 (by assumption) (S_X0_prayer hn hk (bLiv_M h21)) (Nat.le_of_ble_eq_true rfl) ⟨(Nat.le_of_ble_eq_true rfl), (Nat.le_of_ble_eq_true rfl)⟩ (xle_r _) (xle_r _) ?_
      exact xV_ireturn e_X2_pray_39 rfl rfl (have E : ePray (mS I (x + 9)) m = 0 := (by rw [ePray, if_pos (show bMonk (mS I (x + 9)).1 m = true from h8), if_pos (show bLiv (mS I (x + 9)).1 m = true from h21)]); ⟨_, rfl, rfl, Or.inl ⟨E, rfl, p2, _, hr, rfl⟩⟩)
    · refine xV_bipush (v := (-3)) e_X2_pray_24 (by decide) ?_
      exact xV_ireturn e_X2_pray_26 rfl rfl (have E : ePray (mS I (x + 9)) m = (-3) := (by rw [ePray, if_pos (show bMonk (mS I (x + 9)).1 m = true from h8), if_neg (by rw [show bLiv (mS I (x + 9)).1 m = false from h21]; decide)]); ⟨_, rfl, rfl, Or.inr ⟨(fun z => absurd (E.symm.trans z) (by decide)), E.symm, rfl, rfl⟩⟩)
  · refine xV_iconst (v := (-1)) e_X2_pray_11 (by decide) ?_
    exact xV_ireturn e_X2_pray_12 rfl rfl (have E : ePray (mS I (x + 9)) m = (-1) := (by rw [ePray, if_neg (by rw [show bMonk (mS I (x + 9)).1 m = false from h8]; decide)]); ⟨_, rfl, rfl, Or.inr ⟨(fun z => absurd (E.symm.trans z) (by decide)), E.symm, rfl, rfl⟩⟩)
set_option maxHeartbeats 4000000 in
set_option maxRecDepth 100000 in
theorem C_X2_oath {x : Nat} (hX : XS G T R x) {mo na : Nat} {p : Nat → Nat} (hk : MOK mo (mS I (x + 9))) (ha : I x 7 = nI na) (hna : na ≤ 14) (hp : PastR R x p) {m : Int32} : xCon G Y_X2_oath [.ref x, .int m] T R L I ((T, fun v R2 L2 I2 => ∃ r, v = some (.int r) ∧ (L2 = L ∧ ((eOath (mS I (x + 9)) m = 0 ∧ r = vOath (mS I (x + 9)) m ∧ ActP x na p R I (gOath (mS I (x + 9)) m) R2 I2) ∨ (¬ eOath (mS I (x + 9)) m = 0 ∧ r = eOath (mS I (x + 9)) m ∧ R2 = R ∧ I2 = I))))) := by
  obtain ⟨x0, xt, xts, xr, hrd, xn, hn, xtr, htr, xs, xss, xp, xps, xq, xqs, xqr, xqm, xc, xcs, xo, xos, hpool⟩ := id hX
  obtain ⟨n0, nr0, nr1, nr2, nr3, nr4, ns1, ns2, ns3, ns4, ns5⟩ := id hn
  have t0 := htr.1
  have d0 := hrd.1
  refine xCon.mk (xl := [some (.ref x), some (.int m), none, none]) (by decide +kernel) (xle_r _) rfl (Nat.le_of_ble_eq_true rfl) rfl ?_
  refine xV_aload_n e_X2_oath_0 rfl ?_
  refine xV_getR e_X2_oath_1 f_X2_23 (by assumption) (by assumption) ?_
  refine xV_iload_n e_X2_oath_4 rfl ?_
  refine xV_cV1i e_X2_oath_5 c_X2_122 (by assumption) (G_X0_isMonk (by assumption)) (Nat.le_of_ble_eq_true rfl) ⟨(Nat.le_of_ble_eq_true rfl), (Nat.le_of_ble_eq_true rfl)⟩ (xle_r _) (xle_r _) ?_
  refine xV_if_neB e_X2_oath_8 (fun h8 => ?_) (fun h8 => ?_)
  · refine xV_aload_n e_X2_oath_13 rfl ?_
    refine xV_getR e_X2_oath_14 f_X2_23 (by assumption) (by assumption) ?_
    refine xV_iload_n e_X2_oath_17 rfl ?_
    refine xV_cV1i e_X2_oath_18 c_X2_125 (by assumption) (G_X0_placeOf (by assumption)) (Nat.le_of_ble_eq_true rfl) ⟨(Nat.le_of_ble_eq_true rfl), (Nat.le_of_ble_eq_true rfl)⟩ (xle_r _) (xle_r _) ?_
    refine xV_istore_n e_X2_oath_21 (Nat.le_of_ble_eq_true rfl) rfl ?_
    refine xV_aload_n e_X2_oath_22 rfl ?_
    refine xV_getR e_X2_oath_23 f_X2_23 (by assumption) (by assumption) ?_
    refine xV_iload_n e_X2_oath_26 rfl ?_
    refine xV_cV1i e_X2_oath_27 c_X2_134 (by assumption) (G_X0_isLiving (by assumption)) (Nat.le_of_ble_eq_true rfl) ⟨(Nat.le_of_ble_eq_true rfl), (Nat.le_of_ble_eq_true rfl)⟩ (xle_r _) (xle_r _) ?_
    refine xV_if_eqB e_X2_oath_30 (fun h30 => ?_) (fun h30 => ?_)
    · refine xV_bipush (v := (-3)) e_X2_oath_44 (by decide) ?_
      exact xV_ireturn e_X2_oath_46 rfl rfl (have E : eOath (mS I (x + 9)) m = (-3) := (by rw [eOath, if_pos (show bMonk (mS I (x + 9)).1 m = true from h8), if_neg (fun z => by have z1 : bLiv (I (x + 9)) m = true := z.1; rw [h30] at z1; cases z1)]); ⟨_, rfl, rfl, Or.inr ⟨(fun z => absurd (E.symm.trans z) (by decide)), E.symm, rfl, rfl⟩⟩)
    · refine xV_aload_n e_X2_oath_33 rfl ?_
      refine xV_getR e_X2_oath_34 f_X2_23 (by assumption) (by assumption) ?_
      refine xV_iload_n e_X2_oath_37 rfl ?_
      refine xV_cV1i e_X2_oath_38 c_X2_115 (by assumption) (G_X0_isFallen (by assumption)) (Nat.le_of_ble_eq_true rfl) ⟨(Nat.le_of_ble_eq_true rfl), (Nat.le_of_ble_eq_true rfl)⟩ (xle_r _) (xle_r _) ?_
      refine xV_if_eqB e_X2_oath_41 (fun h41 => ?_) (fun h41 => ?_)
      · refine xV_aload_n e_X2_oath_47 rfl ?_
        refine xV_getR e_X2_oath_48 f_X2_23 (by assumption) (by assumption) ?_
        refine xV_getR e_X2_oath_51 f_X2_109 (by assumption) (by assumption) ?_
        refine xV_iload_n e_X2_oath_54 rfl ?_
        refine xV_cS2i e_X2_oath_55 c_X2_102 (C_X2_at (xRow.of ns3) (by omega)) (Nat.le_of_ble_eq_true rfl) ⟨(Nat.le_of_ble_eq_true rfl), (Nat.le_of_ble_eq_true rfl)⟩ (xle_r _) (xle_r _) ?_
        refine xV_istore_n e_X2_oath_58 (Nat.le_of_ble_eq_true rfl) rfl ?_
        refine xV_iload_n e_X2_oath_59 rfl ?_
        refine xV_bipush (v := (nI 9)) e_X2_oath_60 (by decide) ?_
        refine xV_icmp_lt e_X2_oath_62 (fun h62 => ?_) (fun h62 => ?_)
        · refine xV_aload_n e_X2_oath_68 rfl ?_
          refine xV_cV0vP e_X2_oath_69 c_X2_137 (by assumption) (C_X2_remember hX ha hna hp) (Nat.le_of_ble_eq_true rfl) ⟨(Nat.le_of_ble_eq_true rfl), (Nat.le_of_ble_eq_true rfl)⟩ (xle_r _) (xle_r _) (fun R2 L2 J hq => ?_)
          obtain ⟨rfl, p2, hr⟩ := hq
          have hX2 := hX.R2 hr.2.1
          obtain ⟨x0, xt, xts, xr, hrd, xn, hn, xtr, htr, xs, xss, xp, xps, xq, xqs, xqr, xqm, xc, xcs, xo, xos, hpool⟩ := id hX2
          obtain ⟨n0, nr0, nr1, nr2, nr3, nr4, ns1, ns2, ns3, ns4, ns5⟩ := id hn
          have t0 := htr.1
          have d0 := hrd.1
          rw [hr.pm]
          refine xV_aload_n e_X2_oath_72 rfl ?_
          refine xV_getR e_X2_oath_73 f_X2_23 (by assumption) (by assumption) ?_
          refine xV_getR e_X2_oath_76 f_X2_109 (by assumption) (by assumption) ?_
          refine xV_iload_n e_X2_oath_79 rfl ?_
          refine xV_iload_n e_X2_oath_80 rfl ?_
          refine xV_iconst (v := (nI 1)) e_X2_oath_81 (by decide) ?_
          refine xV_iadd e_X2_oath_82 ?_
          refine xV_cS3v e_X2_oath_83 c_X2_50 (C_X2_putB3 ns3) (Nat.le_of_ble_eq_true rfl) ⟨(Nat.le_of_ble_eq_true rfl), (Nat.le_of_ble_eq_true rfl)⟩ (xle_r _) (xle_r _) ?_
          refine xV_iload_n e_X2_oath_86 rfl ?_
          refine xV_iconst (v := (nI 1)) e_X2_oath_87 (by decide) ?_
          refine xV_iadd e_X2_oath_88 ?_
          exact xV_ireturn e_X2_oath_89 rfl rfl (have E : eOath (mS I (x + 9)) m = 0 := (by rw [eOath, if_pos (show bMonk (mS I (x + 9)).1 m = true from h8), if_pos (show bLiv (mS I (x + 9)).1 m = true ∧ hs ((mS I (x + 9)).1 9) (xat 4 (mS I (x + 9)).2.2.2.2.2 m) = false from ⟨h30, h41⟩), if_pos (show xat 12 (mS I (x + 9)).2.2.2.1 (xat 4 (mS I (x + 9)).2.2.2.2.2 m) < nI 9 from h62)]); ⟨_, rfl, rfl, Or.inl ⟨E, rfl, p2, _, hr, rfl⟩⟩)
        · refine xV_bipush (v := (-4)) e_X2_oath_65 (by decide) ?_
          exact xV_ireturn e_X2_oath_67 rfl rfl (have E : eOath (mS I (x + 9)) m = (-4) := (by rw [eOath, if_pos (show bMonk (mS I (x + 9)).1 m = true from h8), if_pos (show bLiv (mS I (x + 9)).1 m = true ∧ hs ((mS I (x + 9)).1 9) (xat 4 (mS I (x + 9)).2.2.2.2.2 m) = false from ⟨h30, h41⟩), if_neg (show ¬ xat 12 (mS I (x + 9)).2.2.2.1 (xat 4 (mS I (x + 9)).2.2.2.2.2 m) < nI 9 from h62)]); ⟨_, rfl, rfl, Or.inr ⟨(fun z => absurd (E.symm.trans z) (by decide)), E.symm, rfl, rfl⟩⟩)
      · refine xV_bipush (v := (-3)) e_X2_oath_44 (by decide) ?_
        exact xV_ireturn e_X2_oath_46 rfl rfl (have E : eOath (mS I (x + 9)) m = (-3) := (by rw [eOath, if_pos (show bMonk (mS I (x + 9)).1 m = true from h8), if_neg (fun z => by have z1 : hs (I (x + 9) 9) (xat 4 (I (x + 9 + 5)) m) = false := z.2; rw [h41] at z1; cases z1)]); ⟨_, rfl, rfl, Or.inr ⟨(fun z => absurd (E.symm.trans z) (by decide)), E.symm, rfl, rfl⟩⟩)
  · refine xV_iconst (v := (-1)) e_X2_oath_11 (by decide) ?_
    exact xV_ireturn e_X2_oath_12 rfl rfl (have E : eOath (mS I (x + 9)) m = (-1) := (by rw [eOath, if_neg (by rw [show bMonk (mS I (x + 9)).1 m = false from h8]; decide)]); ⟨_, rfl, rfl, Or.inr ⟨(fun z => absurd (E.symm.trans z) (by decide)), E.symm, rfl, rfl⟩⟩)
set_option maxHeartbeats 4000000 in
set_option maxRecDepth 100000 in
theorem C_X2_doubt {x : Nat} (hX : XS G T R x) {mo na : Nat} {p : Nat → Nat} (hk : MOK mo (mS I (x + 9))) (ha : I x 7 = nI na) (hna : na ≤ 14) (hp : PastR R x p) {m : Int32} : xCon G Y_X2_doubt [.ref x, .int m] T R L I ((T, fun v R2 L2 I2 => ∃ r, v = some (.int r) ∧ (L2 = L ∧ ((ePray (mS I (x + 9)) m = 0 ∧ r = vDoubt (mS I (x + 9)) m ∧ ActP x na p R I (gDoubt (mS I (x + 9)) m) R2 I2) ∨ (¬ ePray (mS I (x + 9)) m = 0 ∧ r = ePray (mS I (x + 9)) m ∧ R2 = R ∧ I2 = I))))) := by
  obtain ⟨x0, xt, xts, xr, hrd, xn, hn, xtr, htr, xs, xss, xp, xps, xq, xqs, xqr, xqm, xc, xcs, xo, xos, hpool⟩ := id hX
  obtain ⟨n0, nr0, nr1, nr2, nr3, nr4, ns1, ns2, ns3, ns4, ns5⟩ := id hn
  have t0 := htr.1
  have d0 := hrd.1
  refine xCon.mk (xl := [some (.ref x), some (.int m), none, none]) (by decide +kernel) (xle_r _) rfl (Nat.le_of_ble_eq_true rfl) rfl ?_
  refine xV_aload_n e_X2_doubt_0 rfl ?_
  refine xV_getR e_X2_doubt_1 f_X2_23 (by assumption) (by assumption) ?_
  refine xV_iload_n e_X2_doubt_4 rfl ?_
  refine xV_cV1i e_X2_doubt_5 c_X2_122 (by assumption) (G_X0_isMonk (by assumption)) (Nat.le_of_ble_eq_true rfl) ⟨(Nat.le_of_ble_eq_true rfl), (Nat.le_of_ble_eq_true rfl)⟩ (xle_r _) (xle_r _) ?_
  refine xV_if_neB e_X2_doubt_8 (fun h8 => ?_) (fun h8 => ?_)
  · refine xV_aload_n e_X2_doubt_13 rfl ?_
    refine xV_getR e_X2_doubt_14 f_X2_23 (by assumption) (by assumption) ?_
    refine xV_iload_n e_X2_doubt_17 rfl ?_
    refine xV_cV1i e_X2_doubt_18 c_X2_134 (by assumption) (G_X0_isLiving (by assumption)) (Nat.le_of_ble_eq_true rfl) ⟨(Nat.le_of_ble_eq_true rfl), (Nat.le_of_ble_eq_true rfl)⟩ (xle_r _) (xle_r _) ?_
    refine xV_if_neB e_X2_doubt_21 (fun h21 => ?_) (fun h21 => ?_)
    · refine xV_aload_n e_X2_doubt_27 rfl ?_
      refine xV_cV0vP e_X2_doubt_28 c_X2_137 (by assumption) (C_X2_remember hX ha hna hp) (Nat.le_of_ble_eq_true rfl) ⟨(Nat.le_of_ble_eq_true rfl), (Nat.le_of_ble_eq_true rfl)⟩ (xle_r _) (xle_r _) (fun R2 L2 J hq => ?_)
      obtain ⟨rfl, p2, hr⟩ := hq
      have hX2 := hX.R2 hr.2.1
      obtain ⟨x0, xt, xts, xr, hrd, xn, hn, xtr, htr, xs, xss, xp, xps, xq, xqs, xqr, xqm, xc, xcs, xo, xos, hpool⟩ := id hX2
      obtain ⟨n0, nr0, nr1, nr2, nr3, nr4, ns1, ns2, ns3, ns4, ns5⟩ := id hn
      have t0 := htr.1
      have d0 := hrd.1
      rw [hr.pm]
      refine xV_aload_n e_X2_doubt_31 rfl ?_
      refine xV_getR e_X2_doubt_32 f_X2_23 (by assumption) (by assumption) ?_
      refine xV_iload_n e_X2_doubt_35 rfl ?_
      refine xV_cV1i e_X2_doubt_36 c_X2_125 (by assumption) (C_X0_placeOf hn) (Nat.le_of_ble_eq_true rfl) ⟨(Nat.le_of_ble_eq_true rfl), (Nat.le_of_ble_eq_true rfl)⟩ (xle_r _) (xle_r _) ?_
      refine xV_istore_n e_X2_doubt_39 (Nat.le_of_ble_eq_true rfl) rfl ?_
      refine xV_iconst (v := (nI 0)) e_X2_doubt_40 (by decide) ?_
      refine xV_aload_n e_X2_doubt_41 rfl ?_
      refine xV_getR e_X2_doubt_42 f_X2_23 (by assumption) (by assumption) ?_
      refine xV_getR e_X2_doubt_45 f_X2_106 (by assumption) (by assumption) ?_
      refine xV_iload_n e_X2_doubt_48 rfl ?_
      refine xV_cS2i e_X2_doubt_49 c_X2_102 (C_X2_at (xRow.p2 ns2) (by omega)) (Nat.le_of_ble_eq_true rfl) ⟨(Nat.le_of_ble_eq_true rfl), (Nat.le_of_ble_eq_true rfl)⟩ (xle_r _) (xle_r _) ?_
      refine xV_iconst (v := (nI 1)) e_X2_doubt_52 (by decide) ?_
      refine xV_isub e_X2_doubt_53 ?_
      refine xV_cS2i e_X2_doubt_54 c_X2_143 (C_J9_max_7cf53) (Nat.le_of_ble_eq_true rfl) ⟨(Nat.le_of_ble_eq_true rfl), (Nat.le_of_ble_eq_true rfl)⟩ (xle_r _) (xle_r _) ?_
      refine xV_istore_n e_X2_doubt_57 (Nat.le_of_ble_eq_true rfl) rfl ?_
      refine xV_aload_n e_X2_doubt_58 rfl ?_
      refine xV_getR e_X2_doubt_59 f_X2_23 (by assumption) (by assumption) ?_
      refine xV_getR e_X2_doubt_62 f_X2_106 (by assumption) (by assumption) ?_
      refine xV_iload_n e_X2_doubt_65 rfl ?_
      refine xV_iload_n e_X2_doubt_66 rfl ?_
      refine xV_cS3v e_X2_doubt_67 c_X2_50 (C_X2_putB2 ns2) (Nat.le_of_ble_eq_true rfl) ⟨(Nat.le_of_ble_eq_true rfl), (Nat.le_of_ble_eq_true rfl)⟩ (xle_r _) (xle_r _) ?_
      refine xV_iload_n e_X2_doubt_70 rfl ?_
      exact xV_ireturn e_X2_doubt_71 rfl rfl (have E : ePray (mS I (x + 9)) m = 0 := (by rw [ePray, if_pos (show bMonk (mS I (x + 9)).1 m = true from h8), if_pos (show bLiv (mS I (x + 9)).1 m = true from h21)]); ⟨_, rfl, rfl, Or.inl ⟨E, rfl, p2, _, hr, rfl⟩⟩)
    · refine xV_bipush (v := (-3)) e_X2_doubt_24 (by decide) ?_
      exact xV_ireturn e_X2_doubt_26 rfl rfl (have E : ePray (mS I (x + 9)) m = (-3) := (by rw [ePray, if_pos (show bMonk (mS I (x + 9)).1 m = true from h8), if_neg (by rw [show bLiv (mS I (x + 9)).1 m = false from h21]; decide)]); ⟨_, rfl, rfl, Or.inr ⟨(fun z => absurd (E.symm.trans z) (by decide)), E.symm, rfl, rfl⟩⟩)
  · refine xV_iconst (v := (-1)) e_X2_doubt_11 (by decide) ?_
    exact xV_ireturn e_X2_doubt_12 rfl rfl (have E : ePray (mS I (x + 9)) m = (-1) := (by rw [ePray, if_neg (by rw [show bMonk (mS I (x + 9)).1 m = false from h8]; decide)]); ⟨_, rfl, rfl, Or.inr ⟨(fun z => absurd (E.symm.trans z) (by decide)), E.symm, rfl, rfl⟩⟩)
set_option maxHeartbeats 4000000 in
set_option maxRecDepth 100000 in
theorem C_X2_walk {x : Nat} (hX : XS G T R x) {mo na : Nat} {p : Nat → Nat} (hk : MOK mo (mS I (x + 9))) (ha : I x 7 = nI na) (hna : na ≤ 14) (hp : PastR R x p) {m c : Int32} : xCon G Y_X2_walk [.ref x, .int m, .int c] T R L I ((T, fun v R2 L2 I2 => ∃ r, v = some (.int r) ∧ (L2 = L ∧ ((eWalk (mS I (x + 9)) m c = 0 ∧ r = vWalk mo (mS I (x + 9)) m c ∧ ActP x na p R I (gWalk (mS I (x + 9)) m c) R2 I2) ∨ (¬ eWalk (mS I (x + 9)) m c = 0 ∧ r = eWalk (mS I (x + 9)) m c ∧ R2 = R ∧ I2 = I))))) := by
  obtain ⟨x0, xt, xts, xr, hrd, xn, hn, xtr, htr, xs, xss, xp, xps, xq, xqs, xqr, xqm, xc, xcs, xo, xos, hpool⟩ := id hX
  obtain ⟨n0, nr0, nr1, nr2, nr3, nr4, ns1, ns2, ns3, ns4, ns5⟩ := id hn
  have t0 := htr.1
  have d0 := hrd.1
  refine xCon.mk (xl := [some (.ref x), some (.int m), some (.int c)]) (by decide +kernel) (xle_r _) rfl (Nat.le_of_ble_eq_true rfl) rfl ?_
  refine xV_aload_n e_X2_walk_0 rfl ?_
  refine xV_getR e_X2_walk_1 f_X2_23 (by assumption) (by assumption) ?_
  refine xV_iload_n e_X2_walk_4 rfl ?_
  refine xV_cV1i e_X2_walk_5 c_X2_122 (by assumption) (G_X0_isMonk (by assumption)) (Nat.le_of_ble_eq_true rfl) ⟨(Nat.le_of_ble_eq_true rfl), (Nat.le_of_ble_eq_true rfl)⟩ (xle_r _) (xle_r _) ?_
  refine xV_if_eqB e_X2_walk_8 (fun h8 => ?_) (fun h8 => ?_)
  · refine xV_iconst (v := (-1)) e_X2_walk_18 (by decide) ?_
    exact xV_ireturn e_X2_walk_19 rfl rfl (have E : eWalk (mS I (x + 9)) m c = (-1) := (by rw [eWalk, if_neg (fun z => by have z1 : bMonk (I (x + 9)) m = true := z.1; rw [h8] at z1; cases z1)]); ⟨_, rfl, rfl, Or.inr ⟨(fun z => absurd (E.symm.trans z) (by decide)), E.symm, rfl, rfl⟩⟩)
  · refine xV_iload_n e_X2_walk_11 rfl ?_
    refine xV_cS1i e_X2_walk_12 c_X2_95 (C_X2_isCell) (Nat.le_of_ble_eq_true rfl) ⟨(Nat.le_of_ble_eq_true rfl), (Nat.le_of_ble_eq_true rfl)⟩ (xle_r _) (xle_r _) ?_
    refine xV_if_neB e_X2_walk_15 (fun h15 => ?_) (fun h15 => ?_)
    · refine xV_aload_n e_X2_walk_20 rfl ?_
      refine xV_getR e_X2_walk_21 f_X2_23 (by assumption) (by assumption) ?_
      refine xV_iload_n e_X2_walk_24 rfl ?_
      refine xV_cV1i e_X2_walk_25 c_X2_134 (by assumption) (G_X0_isLiving (by assumption)) (Nat.le_of_ble_eq_true rfl) ⟨(Nat.le_of_ble_eq_true rfl), (Nat.le_of_ble_eq_true rfl)⟩ (xle_r _) (xle_r _) ?_
      refine xV_if_eqB e_X2_walk_28 (fun h28 => ?_) (fun h28 => ?_)
      · refine xV_bipush (v := (-3)) e_X2_walk_52 (by decide) ?_
        exact xV_ireturn e_X2_walk_54 rfl rfl (have E : eWalk (mS I (x + 9)) m c = (-3) := (by rw [eWalk, if_pos (show bMonk (mS I (x + 9)).1 m = true ∧ bCell c = true from ⟨h8, h15⟩), if_neg (fun z => by have z1 : bLiv (I (x + 9)) m = true := z.1; rw [h28] at z1; cases z1)]); ⟨_, rfl, rfl, Or.inr ⟨(fun z => absurd (E.symm.trans z) (by decide)), E.symm, rfl, rfl⟩⟩)
      · refine xV_near e_X2_walk_31 f_X2_149 ?_
        refine xV_aload_n e_X2_walk_34 rfl ?_
        refine xV_getR e_X2_walk_35 f_X2_23 (by assumption) (by assumption) ?_
        refine xV_iload_n e_X2_walk_38 rfl ?_
        refine xV_cV1i e_X2_walk_39 c_X2_125 (by assumption) (G_X0_placeOf (by assumption)) (Nat.le_of_ble_eq_true rfl) ⟨(Nat.le_of_ble_eq_true rfl), (Nat.le_of_ble_eq_true rfl)⟩ (xle_r _) (xle_r _) ?_
        refine xV_cS2i e_X2_walk_42 c_X2_102 (C_X2_at xRow.near (by omega)) (Nat.le_of_ble_eq_true rfl) ⟨(Nat.le_of_ble_eq_true rfl), (Nat.le_of_ble_eq_true rfl)⟩ (xle_r _) (xle_r _) ?_
        refine xV_iload_n e_X2_walk_45 rfl ?_
        refine xV_cS2i e_X2_walk_46 c_X2_152 (C_X2_has) (Nat.le_of_ble_eq_true rfl) ⟨(Nat.le_of_ble_eq_true rfl), (Nat.le_of_ble_eq_true rfl)⟩ (xle_r _) (xle_r _) ?_
        refine xV_if_neB e_X2_walk_49 (fun h49 => ?_) (fun h49 => ?_)
        · refine xV_aload_n e_X2_walk_55 rfl ?_
          refine xV_cV0vP e_X2_walk_56 c_X2_137 (by assumption) (C_X2_remember hX ha hna hp) (Nat.le_of_ble_eq_true rfl) ⟨(Nat.le_of_ble_eq_true rfl), (Nat.le_of_ble_eq_true rfl)⟩ (xle_r _) (xle_r _) (fun R2 L2 J hq => ?_)
          obtain ⟨rfl, p2, hr⟩ := hq
          have hX2 := hX.R2 hr.2.1
          obtain ⟨x0, xt, xts, xr, hrd, xn, hn, xtr, htr, xs, xss, xp, xps, xq, xqs, xqr, xqm, xc, xcs, xo, xos, hpool⟩ := id hX2
          obtain ⟨n0, nr0, nr1, nr2, nr3, nr4, ns1, ns2, ns3, ns4, ns5⟩ := id hn
          have t0 := htr.1
          have d0 := hrd.1
          rw [hr.pm]
          refine xV_aload_n e_X2_walk_59 rfl ?_
          refine xV_getR e_X2_walk_60 f_X2_23 (by assumption) (by assumption) ?_
          refine xV_getR e_X2_walk_63 f_X2_156 (by assumption) (by assumption) ?_
          refine xV_iload_n e_X2_walk_66 rfl ?_
          refine xV_iload_n e_X2_walk_67 rfl ?_
          refine xV_cS3v e_X2_walk_68 c_X2_50 (C_X2_putB5 ns5) (Nat.le_of_ble_eq_true rfl) ⟨(Nat.le_of_ble_eq_true rfl), (Nat.le_of_ble_eq_true rfl)⟩ (xle_r _) (xle_r _) ?_
          refine xV_aload_n e_X2_walk_71 rfl ?_
          refine xV_getR e_X2_walk_72 f_X2_23 (by assumption) (by assumption) ?_
          refine xV_iconst (v := (nI 1)) e_X2_walk_75 (by decide) ?_
          refine xV_iload_n e_X2_walk_76 rfl ?_
          refine xV_ishl e_X2_walk_77 ?_
          refine xV_cV1i e_X2_walk_78 c_X2_118 (by assumption) (C_X0_monksOn hn hk.1 hk.2.1) (Nat.le_of_ble_eq_true rfl) ⟨(Nat.le_of_ble_eq_true rfl), (Nat.le_of_ble_eq_true rfl)⟩ (xle_r _) (xle_r _) ?_
          refine xV_aload_n e_X2_walk_81 rfl ?_
          refine xV_getR e_X2_walk_82 f_X2_23 (by assumption) (by assumption) ?_
          refine xV_cV0i e_X2_walk_85 c_X2_159 (by assumption) (C_X0_living hn) (Nat.le_of_ble_eq_true rfl) ⟨(Nat.le_of_ble_eq_true rfl), (Nat.le_of_ble_eq_true rfl)⟩ (xle_r _) (xle_r _) ?_
          refine xV_iand e_X2_walk_88 ?_
          refine xV_iconst (v := (nI 1)) e_X2_walk_89 (by decide) ?_
          refine xV_iload_n e_X2_walk_90 rfl ?_
          refine xV_ishl e_X2_walk_91 ?_
          refine xV_iconst (v := (-1)) e_X2_walk_92 (by decide) ?_
          refine xV_ixor e_X2_walk_93 ?_
          refine xV_iand e_X2_walk_94 ?_
          exact xV_ireturn e_X2_walk_95 rfl rfl (have E : eWalk (mS I (x + 9)) m c = 0 := (by rw [eWalk, if_pos (show bMonk (mS I (x + 9)).1 m = true ∧ bCell c = true from ⟨h8, h15⟩), if_pos (show bLiv (mS I (x + 9)).1 m = true ∧ hs (xat 12 xnear (xat 4 (mS I (x + 9)).2.2.2.2.2 m)) c = true from ⟨h28, h49⟩)]); ⟨_, rfl, rfl, Or.inl ⟨E, rfl, p2, _, hr, rfl⟩⟩)
        · refine xV_bipush (v := (-3)) e_X2_walk_52 (by decide) ?_
          exact xV_ireturn e_X2_walk_54 rfl rfl (have E : eWalk (mS I (x + 9)) m c = (-3) := (by rw [eWalk, if_pos (show bMonk (mS I (x + 9)).1 m = true ∧ bCell c = true from ⟨h8, h15⟩), if_neg (fun z => by have z1 : hs (xat 12 xnear (xat 4 (I (x + 9 + 5)) m)) c = true := z.2; rw [h49] at z1; cases z1)]); ⟨_, rfl, rfl, Or.inr ⟨(fun z => absurd (E.symm.trans z) (by decide)), E.symm, rfl, rfl⟩⟩)
    · refine xV_iconst (v := (-1)) e_X2_walk_18 (by decide) ?_
      exact xV_ireturn e_X2_walk_19 rfl rfl (have E : eWalk (mS I (x + 9)) m c = (-1) := (by rw [eWalk, if_neg (fun z => by have z1 : bCell c = true := z.2; rw [h15] at z1; cases z1)]); ⟨_, rfl, rfl, Or.inr ⟨(fun z => absurd (E.symm.trans z) (by decide)), E.symm, rfl, rfl⟩⟩)
set_option maxHeartbeats 4000000 in
set_option maxRecDepth 100000 in
theorem C_X2_day {x : Nat} (hX : XS G T R x) {mo na : Nat} {p : Nat → Nat} (hk : MOK mo (mS I (x + 9))) (ha : I x 7 = nI na) (hna : na ≤ 14) (hp : PastR R x p)  : xCon G Y_X2_day [.ref x] T R L I ((T, fun v R2 L2 I2 => ∃ r, v = some (.int r) ∧ (L2 = L ∧ (r = vEdv mo (mS I (x + 9)) ∧ ActP x na p R I (gEd mo (mS I (x + 9))) R2 I2)))) := by
  obtain ⟨x0, xt, xts, xr, hrd, xn, hn, xtr, htr, xs, xss, xp, xps, xq, xqs, xqr, xqm, xc, xcs, xo, xos, hpool⟩ := id hX
  obtain ⟨n0, nr0, nr1, nr2, nr3, nr4, ns1, ns2, ns3, ns4, ns5⟩ := id hn
  have t0 := htr.1
  have d0 := hrd.1
  refine xCon.mk (xl := [some (.ref x)]) (by decide +kernel) (xle_r _) rfl (Nat.le_of_ble_eq_true rfl) rfl ?_
  refine xV_aload_n e_X2_day_0 rfl ?_
  refine xV_cV0vP e_X2_day_1 c_X2_137 (by assumption) (C_X2_remember hX ha hna hp) (Nat.le_of_ble_eq_true rfl) ⟨(Nat.le_of_ble_eq_true rfl), (Nat.le_of_ble_eq_true rfl)⟩ (xle_r _) (xle_r _) (fun R2 L2 J hq => ?_)
  obtain ⟨rfl, p2, hr⟩ := hq
  have hX2 := hX.R2 hr.2.1
  obtain ⟨x0, xt, xts, xr, hrd, xn, hn, xtr, htr, xs, xss, xp, xps, xq, xqs, xqr, xqm, xc, xcs, xo, xos, hpool⟩ := id hX2
  obtain ⟨n0, nr0, nr1, nr2, nr3, nr4, ns1, ns2, ns3, ns4, ns5⟩ := id hn
  have t0 := htr.1
  have d0 := hrd.1
  rw [hr.pm]
  refine xV_aload_n e_X2_day_4 rfl ?_
  refine xV_getR e_X2_day_5 f_X2_23 (by assumption) (by assumption) ?_
  refine xV_cV0i e_X2_day_8 c_X2_162 (by assumption) (S_X0_endDay hn hk) (Nat.le_of_ble_eq_true rfl) ⟨(Nat.le_of_ble_eq_true rfl), (Nat.le_of_ble_eq_true rfl)⟩ (xle_r _) (xle_r _) ?_
  exact xV_ireturn e_X2_day_11 rfl rfl ⟨_, rfl, rfl, rfl, p2, _, hr, rfl⟩
set_option maxHeartbeats 4000000 in
set_option maxRecDepth 100000 in
theorem C_X2_undoOk {x : Nat} (hX : XS G T R x) {na : Nat} {p : Nat → Nat} (ha : I x 7 = nI na) (h1 : 1 ≤ na) (hna : na ≤ 14) (hp : PastR R x p) : xCon G Y_X2_undo [.ref x] T R L I (xD (some (.int (nI (na - 1)))) T R L (pm (xst I x 7 (nI (na - 1))) (x + 9) (mS I (x + 26 + 6 * p (na - 1))))) := by
  obtain ⟨x0, xt, xts, xr, hrd, xn, hn, xtr, htr, xs, xss, xp, xps, xq, xqs, xqr, xqm, xc, xcs, xo, xos, hpool⟩ := id hX
  obtain ⟨n0, nr0, nr1, nr2, nr3, nr4, ns1, ns2, ns3, ns4, ns5⟩ := id hn
  have t0 := htr.1
  have d0 := hrd.1
  obtain ⟨hpa, hpb⟩ := hp.1 (na - 1) (by omega)
  have e7 : xst I x 7 (nI (na - 1)) x 7 = nI (na - 1) := by rw [xst_s]; rfl
  refine xCon.mk (xl := [some (.ref x)]) (by decide +kernel) (xle_r _) rfl (Nat.le_of_ble_eq_true rfl) rfl ?_
  refine xV_aload_n e_X2_undo_0 rfl ?_
  refine xV_getI e_X2_undo_1 f_X2_65 (by assumption) ?_
  rw [ha]
  refine xV_iconst (v := (nI 1)) e_X2_undo_4 (by decide) ?_
  refine xV_icmp_ltN e_X2_undo_5 (by omega) (by omega) (fun h5 => ?_) (fun h5 => ?_)
  · exact absurd h5 (by omega)
  · refine xV_aload_n e_X2_undo_8 rfl ?_
    refine xV_getI e_X2_undo_9 f_X2_65 (by assumption) ?_
    rw [ha]
    refine xV_aload_n e_X2_undo_12 rfl ?_
    refine xV_getR e_X2_undo_13 f_X2_33 (by assumption) (by assumption) ?_
    refine xV_alenQN e_X2_undo_16 xps ?_
    refine xV_icmp_leN e_X2_undo_17 (by omega) (by omega) (fun h17 => ?_) (fun h17 => ?_)
    · refine xV_aload_n e_X2_undo_23 rfl ?_
      refine xV_dup e_X2_undo_24 rfl ?_
      refine xV_getI e_X2_undo_25 f_X2_65 (by assumption) ?_
      rw [ha]
      refine xV_iconst (v := (nI 1)) e_X2_undo_28 (by decide) ?_
      refine xV_isubN e_X2_undo_29 (by omega) ?_
      refine xV_putI e_X2_undo_30 p_X2_65 (by assumption) ?_
      refine xV_aload_n e_X2_undo_33 rfl ?_
      refine xV_getR e_X2_undo_34 f_X2_23 (by assumption) (by assumption) ?_
      refine xV_aload_n e_X2_undo_37 rfl ?_
      refine xV_getR e_X2_undo_38 f_X2_33 (by assumption) (by assumption) ?_
      refine xV_aload_n e_X2_undo_41 rfl ?_
      refine xV_getI e_X2_undo_42 f_X2_65 (by assumption) ?_
      rw [e7]
      refine xV_aaldN e_X2_undo_45 (by assumption) (by omega) (by omega) (by assumption) ?_
      refine xV_cV1v e_X2_undo_46 c_X2_61 (by assumption) (C_X0_take hn (hpool _ hpb) (by omega)) (Nat.le_of_ble_eq_true rfl) ⟨(Nat.le_of_ble_eq_true rfl), (Nat.le_of_ble_eq_true rfl)⟩ (xle_r _) (xle_r _) ?_
      refine xV_aload_n e_X2_undo_49 rfl ?_
      refine xV_getI e_X2_undo_50 f_X2_65 (by assumption) ?_
      rw [pm_o (by omega), e7, mS_xst (by omega)]
      exact xV_ireturn e_X2_undo_53 rfl rfl ⟨rfl, rfl, rfl, rfl⟩
    · exact absurd h17 (by omega)
set_option maxHeartbeats 4000000 in
set_option maxRecDepth 100000 in
theorem C_X2_undoBad {x : Nat} (hX : XS G T R x) (ha : I x 7 = nI 0) : xCon G Y_X2_undo [.ref x] T R L I (xD (some (.int (-3))) T R L I) := by
  obtain ⟨x0, xt, xts, xr, hrd, xn, hn, xtr, htr, xs, xss, xp, xps, xq, xqs, xqr, xqm, xc, xcs, xo, xos, hpool⟩ := id hX
  obtain ⟨n0, nr0, nr1, nr2, nr3, nr4, ns1, ns2, ns3, ns4, ns5⟩ := id hn
  have t0 := htr.1
  have d0 := hrd.1
  refine xCon.mk (xl := [some (.ref x)]) (by decide +kernel) (xle_r _) rfl (Nat.le_of_ble_eq_true rfl) rfl ?_
  refine xV_aload_n e_X2_undo_0 rfl ?_
  refine xV_getI e_X2_undo_1 f_X2_65 (by assumption) ?_
  rw [ha]
  refine xV_iconst (v := (nI 1)) e_X2_undo_4 (by decide) ?_
  refine xV_icmp_ltN e_X2_undo_5 (by omega) (by omega) (fun h5 => ?_) (fun h5 => ?_)
  · refine xV_bipush (v := (-3)) e_X2_undo_20 (by decide) ?_
    exact xV_ireturn e_X2_undo_22 rfl rfl ⟨rfl, rfl, rfl, rfl⟩
  · exact absurd h5 (by omega)
set_option maxHeartbeats 4000000 in
set_option maxRecDepth 100000 in
theorem C_X2_keepOk {x : Nat} (hX : XS G T R x) {s : Nat} (hs2 : s < 2) : xCon G Y_X2_keep [.ref x, .int (nI s)] T R L I (xD (some (.int (I (x + 9) 11))) T R L (xst (pm I (x + 110 + 6 * s) (mS I (x + 9))) x 9 (I x 9 ||| (nI 1 <<< (nI s &&& 31))))) := by
  obtain ⟨x0, xt, xts, xr, hrd, xn, hn, xtr, htr, xs, xss, xp, xps, xq, xqs, xqr, xqm, xc, xcs, xo, xos, hpool⟩ := id hX
  obtain ⟨n0, nr0, nr1, nr2, nr3, nr4, ns1, ns2, ns3, ns4, ns5⟩ := id hn
  have t0 := htr.1
  have d0 := hrd.1
  have hq1 := xqr s hs2
  have hq2 := xqm s hs2
  have hq3 := hq2.1
  refine xCon.mk (xl := [some (.ref x), some (.int (nI s)), none]) (by decide +kernel) (xle_r _) rfl (Nat.le_of_ble_eq_true rfl) rfl ?_
  refine xV_iload_n e_X2_keep_0 rfl ?_
  refine xV_if_lt e_X2_keep_1 (fun h1 => ?_) (fun h1 => ?_)
  · exact absurd h1 (nI_pos (by omega))
  · refine xV_iload_n e_X2_keep_4 rfl ?_
    refine xV_aload_n e_X2_keep_5 rfl ?_
    refine xV_getR e_X2_keep_6 f_X2_37 (by assumption) (by assumption) ?_
    refine xV_alenQN e_X2_keep_9 xqs ?_
    refine xV_icmp_ltN e_X2_keep_10 (by omega) (by omega) (fun h10 => ?_) (fun h10 => ?_)
    · refine xV_aload_n e_X2_keep_15 rfl ?_
      refine xV_getR e_X2_keep_16 f_X2_37 (by assumption) (by assumption) ?_
      refine xV_iload_n e_X2_keep_19 rfl ?_
      refine xV_aaldN e_X2_keep_20 (by assumption) (by omega) (by omega) (by assumption) ?_
      refine xV_astore_n e_X2_keep_21 (Nat.le_of_ble_eq_true rfl) rfl ?_
      refine xV_aload_n e_X2_keep_22 rfl ?_
      refine xV_ifnull e_X2_keep_23 ?_
      refine xV_aload_n e_X2_keep_26 rfl ?_
      refine xV_aload_n e_X2_keep_27 rfl ?_
      refine xV_getR e_X2_keep_28 f_X2_23 (by assumption) (by assumption) ?_
      refine xV_cV1v e_X2_keep_31 c_X2_61 (by assumption) (C_X0_take hq2 hn (by omega)) (Nat.le_of_ble_eq_true rfl) ⟨(Nat.le_of_ble_eq_true rfl), (Nat.le_of_ble_eq_true rfl)⟩ (xle_r _) (xle_r _) ?_
      refine xV_aload_n e_X2_keep_34 rfl ?_
      refine xV_dup e_X2_keep_35 rfl ?_
      refine xV_getI e_X2_keep_36 f_X2_68 (by assumption) ?_
      rw [pm_o (by omega)]
      refine xV_iconst (v := (nI 1)) e_X2_keep_39 (by decide) ?_
      refine xV_iload_n e_X2_keep_40 rfl ?_
      refine xV_ishl e_X2_keep_41 ?_
      refine xV_ior e_X2_keep_42 ?_
      refine xV_putI e_X2_keep_43 p_X2_68 (by assumption) ?_
      refine xV_aload_n e_X2_keep_46 rfl ?_
      refine xV_getR e_X2_keep_47 f_X2_23 (by assumption) (by assumption) ?_
      refine xV_getI e_X2_keep_50 f_X2_77 (by assumption) ?_
      rw [xst_o (by omega), pm_o (by omega)]
      exact xV_ireturn e_X2_keep_53 rfl rfl ⟨rfl, rfl, rfl, rfl⟩
    · exact absurd h10 (by omega)
set_option maxHeartbeats 4000000 in
set_option maxRecDepth 100000 in
theorem C_X2_keepBad {x : Nat} (hX : XS G T R x) {s : Int32} (hb : s < 0 ∨ ¬ s < nI 2) : xCon G Y_X2_keep [.ref x, .int s] T R L I (xD (some (.int (-1))) T R L I) := by
  obtain ⟨x0, xt, xts, xr, hrd, xn, hn, xtr, htr, xs, xss, xp, xps, xq, xqs, xqr, xqm, xc, xcs, xo, xos, hpool⟩ := id hX
  obtain ⟨n0, nr0, nr1, nr2, nr3, nr4, ns1, ns2, ns3, ns4, ns5⟩ := id hn
  have t0 := htr.1
  have d0 := hrd.1
  refine xCon.mk (xl := [some (.ref x), some (.int s), none]) (by decide +kernel) (xle_r _) rfl (Nat.le_of_ble_eq_true rfl) rfl ?_
  refine xV_iload_n e_X2_keep_0 rfl ?_
  refine xV_if_lt e_X2_keep_1 (fun h1 => ?_) (fun h1 => ?_)
  · refine xV_iconst (v := (-1)) e_X2_keep_13 (by decide) ?_
    exact xV_ireturn e_X2_keep_14 rfl rfl ⟨rfl, rfl, rfl, rfl⟩
  · refine xV_iload_n e_X2_keep_4 rfl ?_
    refine xV_aload_n e_X2_keep_5 rfl ?_
    refine xV_getR e_X2_keep_6 f_X2_37 (by assumption) (by assumption) ?_
    refine xV_alenQN e_X2_keep_9 xqs ?_
    refine xV_icmp_lt e_X2_keep_10 (fun h10 => ?_) (fun h10 => ?_)
    · exact absurd h10 (hb.resolve_left h1)
    · refine xV_iconst (v := (-1)) e_X2_keep_13 (by decide) ?_
      exact xV_ireturn e_X2_keep_14 rfl rfl ⟨rfl, rfl, rfl, rfl⟩
set_option maxHeartbeats 4000000 in
set_option maxRecDepth 100000 in
theorem C_X2_againOk {x : Nat} (hX : XS G T R x) {s : Nat} (hs2 : s < 2) (hkp : hs (I x 9) (nI s) = true) : xCon G Y_X2_again [.ref x, .int (nI s)] T R L I (xD (some (.int (I (x + 110 + 6 * s) 11))) T R L (xst (pm I (x + 9) (mS I (x + 110 + 6 * s))) x 7 (nI 0))) := by
  obtain ⟨x0, xt, xts, xr, hrd, xn, hn, xtr, htr, xs, xss, xp, xps, xq, xqs, xqr, xqm, xc, xcs, xo, xos, hpool⟩ := id hX
  obtain ⟨n0, nr0, nr1, nr2, nr3, nr4, ns1, ns2, ns3, ns4, ns5⟩ := id hn
  have t0 := htr.1
  have d0 := hrd.1
  have hq1 := xqr s hs2
  have hq2 := xqm s hs2
  have hq3 := hq2.1
  refine xCon.mk (xl := [some (.ref x), some (.int (nI s))]) (by decide +kernel) (xle_r _) rfl (Nat.le_of_ble_eq_true rfl) rfl ?_
  refine xV_iload_n e_X2_again_0 rfl ?_
  refine xV_if_lt e_X2_again_1 (fun h1 => ?_) (fun h1 => ?_)
  · exact absurd h1 (nI_pos (by omega))
  · refine xV_iload_n e_X2_again_4 rfl ?_
    refine xV_aload_n e_X2_again_5 rfl ?_
    refine xV_getR e_X2_again_6 f_X2_37 (by assumption) (by assumption) ?_
    refine xV_alenQN e_X2_again_9 xqs ?_
    refine xV_icmp_ltN e_X2_again_10 (by omega) (by omega) (fun h10 => ?_) (fun h10 => ?_)
    · refine xV_aload_n e_X2_again_15 rfl ?_
      refine xV_getI e_X2_again_16 f_X2_68 (by assumption) ?_
      refine xV_iload_n e_X2_again_19 rfl ?_
      refine xV_cS2i e_X2_again_20 c_X2_152 (C_X2_has) (Nat.le_of_ble_eq_true rfl) ⟨(Nat.le_of_ble_eq_true rfl), (Nat.le_of_ble_eq_true rfl)⟩ (xle_r _) (xle_r _) ?_
      refine xV_if_neB e_X2_again_23 (fun h23 => ?_) (fun h23 => ?_)
      · refine xV_aload_n e_X2_again_29 rfl ?_
        refine xV_getR e_X2_again_30 f_X2_23 (by assumption) (by assumption) ?_
        refine xV_aload_n e_X2_again_33 rfl ?_
        refine xV_getR e_X2_again_34 f_X2_37 (by assumption) (by assumption) ?_
        refine xV_iload_n e_X2_again_37 rfl ?_
        refine xV_aaldN e_X2_again_38 (by assumption) (by omega) (by omega) (by assumption) ?_
        refine xV_cV1v e_X2_again_39 c_X2_61 (by assumption) (C_X0_take hn hq2 (by omega)) (Nat.le_of_ble_eq_true rfl) ⟨(Nat.le_of_ble_eq_true rfl), (Nat.le_of_ble_eq_true rfl)⟩ (xle_r _) (xle_r _) ?_
        refine xV_aload_n e_X2_again_42 rfl ?_
        refine xV_iconst (v := (nI 0)) e_X2_again_43 (by decide) ?_
        refine xV_putI e_X2_again_44 p_X2_65 (by assumption) ?_
        refine xV_aload_n e_X2_again_47 rfl ?_
        refine xV_getR e_X2_again_48 f_X2_23 (by assumption) (by assumption) ?_
        refine xV_getI e_X2_again_51 f_X2_77 (by assumption) ?_
        rw [xst_o (by omega), pm_0]
        exact xV_ireturn e_X2_again_54 rfl rfl ⟨rfl, rfl, rfl, rfl⟩
      · rw [hkp] at h23; cases h23
    · exact absurd h10 (by omega)
set_option maxHeartbeats 4000000 in
set_option maxRecDepth 100000 in
theorem C_X2_againLate {x : Nat} (hX : XS G T R x) {s : Nat} (hs2 : s < 2) (hkp : hs (I x 9) (nI s) = false) : xCon G Y_X2_again [.ref x, .int (nI s)] T R L I (xD (some (.int (-3))) T R L I) := by
  obtain ⟨x0, xt, xts, xr, hrd, xn, hn, xtr, htr, xs, xss, xp, xps, xq, xqs, xqr, xqm, xc, xcs, xo, xos, hpool⟩ := id hX
  obtain ⟨n0, nr0, nr1, nr2, nr3, nr4, ns1, ns2, ns3, ns4, ns5⟩ := id hn
  have t0 := htr.1
  have d0 := hrd.1
  refine xCon.mk (xl := [some (.ref x), some (.int (nI s))]) (by decide +kernel) (xle_r _) rfl (Nat.le_of_ble_eq_true rfl) rfl ?_
  refine xV_iload_n e_X2_again_0 rfl ?_
  refine xV_if_lt e_X2_again_1 (fun h1 => ?_) (fun h1 => ?_)
  · exact absurd h1 (nI_pos (by omega))
  · refine xV_iload_n e_X2_again_4 rfl ?_
    refine xV_aload_n e_X2_again_5 rfl ?_
    refine xV_getR e_X2_again_6 f_X2_37 (by assumption) (by assumption) ?_
    refine xV_alenQN e_X2_again_9 xqs ?_
    refine xV_icmp_ltN e_X2_again_10 (by omega) (by omega) (fun h10 => ?_) (fun h10 => ?_)
    · refine xV_aload_n e_X2_again_15 rfl ?_
      refine xV_getI e_X2_again_16 f_X2_68 (by assumption) ?_
      refine xV_iload_n e_X2_again_19 rfl ?_
      refine xV_cS2i e_X2_again_20 c_X2_152 (C_X2_has) (Nat.le_of_ble_eq_true rfl) ⟨(Nat.le_of_ble_eq_true rfl), (Nat.le_of_ble_eq_true rfl)⟩ (xle_r _) (xle_r _) ?_
      refine xV_if_neB e_X2_again_23 (fun h23 => ?_) (fun h23 => ?_)
      · rw [hkp] at h23; cases h23
      · refine xV_bipush (v := (-3)) e_X2_again_26 (by decide) ?_
        exact xV_ireturn e_X2_again_28 rfl rfl ⟨rfl, rfl, rfl, rfl⟩
    · exact absurd h10 (by omega)
set_option maxHeartbeats 4000000 in
set_option maxRecDepth 100000 in
theorem C_X2_againBad {x : Nat} (hX : XS G T R x) {s : Int32} (hb : s < 0 ∨ ¬ s < nI 2) : xCon G Y_X2_again [.ref x, .int s] T R L I (xD (some (.int (-1))) T R L I) := by
  obtain ⟨x0, xt, xts, xr, hrd, xn, hn, xtr, htr, xs, xss, xp, xps, xq, xqs, xqr, xqm, xc, xcs, xo, xos, hpool⟩ := id hX
  obtain ⟨n0, nr0, nr1, nr2, nr3, nr4, ns1, ns2, ns3, ns4, ns5⟩ := id hn
  have t0 := htr.1
  have d0 := hrd.1
  refine xCon.mk (xl := [some (.ref x), some (.int s)]) (by decide +kernel) (xle_r _) rfl (Nat.le_of_ble_eq_true rfl) rfl ?_
  refine xV_iload_n e_X2_again_0 rfl ?_
  refine xV_if_lt e_X2_again_1 (fun h1 => ?_) (fun h1 => ?_)
  · refine xV_iconst (v := (-1)) e_X2_again_13 (by decide) ?_
    exact xV_ireturn e_X2_again_14 rfl rfl ⟨rfl, rfl, rfl, rfl⟩
  · refine xV_iload_n e_X2_again_4 rfl ?_
    refine xV_aload_n e_X2_again_5 rfl ?_
    refine xV_getR e_X2_again_6 f_X2_37 (by assumption) (by assumption) ?_
    refine xV_alenQN e_X2_again_9 xqs ?_
    refine xV_icmp_lt e_X2_again_10 (fun h10 => ?_) (fun h10 => ?_)
    · exact absurd h10 (hb.resolve_left h1)
    · refine xV_iconst (v := (-1)) e_X2_again_13 (by decide) ?_
      exact xV_ireturn e_X2_again_14 rfl rfl ⟨rfl, rfl, rfl, rfl⟩
end XPY
