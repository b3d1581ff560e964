/-! PRAYERTAILINGS: shape; Mine over any memory; the simple methods -/
section XPR
variable {G : xG} {T : xT} {R : xR} {L : xL} {I : xI}
def XS (G : xG) (T : xT) (R : xR) (x : Nat) : Prop := (xSh G T x).1 = 2 ∧ R x 0 = some (x + 1) ∧ xSh G T (x + 1) = (4, 72) ∧ R x 2 = some (x + 2) ∧ RdS G T R (x + 2) ∧ R x 3 = some (x + 9) ∧ MinS G T R (x + 9) ∧ R x 4 = some (x + 15) ∧ MinS G T R (x + 15) ∧
  R x 5 = some (x + 21) ∧ xSh G T (x + 21) = (4, 8) ∧ R x 6 = some (x + 22) ∧ xSh G T (x + 22) = (6, 14) ∧ R x 8 = some (x + 23) ∧ xSh G T (x + 23) = (6, 2) ∧ (∀ i, i < 2 → R (x + 23) i = some (x + 110 + 6 * i)) ∧ (∀ i, i < 2 → MinS G T R (x + 110 + 6 * i)) ∧
  R x 10 = some (x + 24) ∧ xSh G T (x + 24) = (4, 6) ∧ R x 11 = some (x + 25) ∧ xSh G T (x + 25) = (4, 6) ∧ (∀ j, j < 14 → MinS G T R (x + 26 + 6 * j))
/-- the cells that a question may leave changed: the reader and its draft, the trial, the song -/
def scr (x a : Nat) : Prop := (x + 2 ≤ a ∧ a < x + 9) ∨ (x + 15 ≤ a ∧ a < x + 22)
def Scr (x : Nat) (I I2 : xI) : Prop := ∀ a, ¬ scr x a → I2 a = I a
theorem Scr.rf {x : Nat} {I : xI} : Scr x I I := fun _ _ => rfl
theorem Scr.tr {x : Nat} {I I1 I2 : xI} (a : Scr x I I1) (b : Scr x I1 I2) : Scr x I I2 := fun q h => (b q h).trans (a q h)
theorem Scr.trial {x : Nat} {I : xI} {S : xS} : Scr x I (pm I (x + 15) S) := fun a h => pm_o (by unfold scr at h; omega)
theorem Scr.song {x : Nat} {I : xI} {w : Nat → Int32} : Scr x I (va_up I (x + 21) w) := fun a h => va_up_n (by unfold scr at h; omega)
theorem Scr.read {x : Nat} {I : xI} {u : Nat → Int32} {S : xS} : Scr x I (pm (va_up I (x + 2) u) (x + 2 + 1) S) := fun a h => by
  unfold scr at h
  rw [pm_o (by omega), va_up_n (by omega)]
theorem Scr.now {x : Nat} {I I2 : xI} (h : Scr x I I2) : mS I2 (x + 9) = mS I (x + 9) := by
  unfold mS
  rw [h (x + 9) (by unfold scr; omega), h (x + 9 + 1) (by unfold scr; omega), h (x + 9 + 2) (by unfold scr; omega), h (x + 9 + 3) (by unfold scr; omega), h (x + 9 + 4) (by unfold scr; omega), h (x + 9 + 5) (by unfold scr; omega)]
/-- a mine that can be worked: its number of monks, their places -/
def MOK (mo : Nat) (S : xS) : Prop := S.1 6 = nI mo ∧ mo ≤ 4 ∧ WP S.2.2.2.2.2 mo
theorem MOK.keep {mo : Nat} {S S' : xS} (h : MOK mo S) (k : keepS S S') : MOK mo S' := ⟨k.2.1.trans h.1, h.2.1, by rw [k.2.2.2]; exact h.2.2⟩
theorem bLiv_N {f : Nat → Int32} {v : Int32} {mo : Nat} (hmo : f 6 = nI mo) (hm : mo < 2 ^ 31) (h : bMonk f v = true) : v = nI v.toNatClampNeg ∧ v.toNatClampNeg < mo := by
  simp only [bMonk, Bool.and_eq_true, decide_eq_true_eq] at h
  rw [hmo] at h
  have hv := bIn_vp hm h.1 h.2
  obtain ⟨j, hj, e⟩ := vp_in_of hv hm
  rw [e, nI_clamp (by omega)]
  exact ⟨rfl, hj⟩
theorem bLiv_M {f : Nat → Int32} {v : Int32} (h : bLiv f v = true) : bMonk f v = true := by
  simp only [bLiv, Bool.and_eq_true] at h
  exact h.1
theorem G_X0_isFallen {h : Nat} (hm : MinS G T R h) {c : Int32} : xCon G Y_X0_isFallen [.ref h, .int c] T R L I (xD (some (.int (xb (hs (I h 9) c)))) T R L I) := by
  have q := C_X0_isFallen (L := L) (I := I) (f := I h) (w1 := I (h + 1)) (w2 := I (h + 2)) (w3 := I (h + 3)) (w4 := I (h + 4)) (w5 := I (h + 5)) (c := c) hm
  rwa [(show pm I h (I h, I (h + 1), I (h + 2), I (h + 3), I (h + 4), I (h + 5)) = I from pm_self)] at q
theorem G_X0_isMonk {h : Nat} (hm : MinS G T R h) {m : Int32} : xCon G Y_X0_isMonk [.ref h, .int m] T R L I (xD (some (.int (xb (bMonk (I h) m)))) T R L I) := by
  have q := C_X0_isMonk (L := L) (I := I) (f := I h) (w1 := I (h + 1)) (w2 := I (h + 2)) (w3 := I (h + 3)) (w4 := I (h + 4)) (w5 := I (h + 5)) (m := m) hm
  rwa [(show pm I h (I h, I (h + 1), I (h + 2), I (h + 3), I (h + 4), I (h + 5)) = I from pm_self)] at q
theorem G_X0_isLiving {h : Nat} (hm : MinS G T R h) {m : Int32} : xCon G Y_X0_isLiving [.ref h, .int m] T R L I (xD (some (.int (xb (bLiv (I h) m)))) T R L I) := by
  have q := C_X0_isLiving (L := L) (I := I) (f := I h) (w1 := I (h + 1)) (w2 := I (h + 2)) (w3 := I (h + 3)) (w4 := I (h + 4)) (w5 := I (h + 5)) (m := m) hm
  rwa [(show pm I h (I h, I (h + 1), I (h + 2), I (h + 3), I (h + 4), I (h + 5)) = I from pm_self)] at q
theorem G_X0_living {h : Nat} (hm : MinS G T R h)  : xCon G Y_X0_living [.ref h] T R L I (xD (some (.int (vLiv (I h)))) T R L I) := by
  have q := C_X0_living (L := L) (I := I) (f := I h) (w1 := I (h + 1)) (w2 := I (h + 2)) (w3 := I (h + 3)) (w4 := I (h + 4)) (w5 := I (h + 5))  hm
  rwa [(show pm I h (I h, I (h + 1), I (h + 2), I (h + 3), I (h + 4), I (h + 5)) = I from pm_self)] at q
theorem G_X0_placeOf {h : Nat} (hm : MinS G T R h) {m : Int32} : xCon G Y_X0_placeOf [.ref h, .int m] T R L I (xD (some (.int (xat 4 (I (h + 5)) m))) T R L I) := by
  have q := C_X0_placeOf (L := L) (I := I) (f := I h) (w1 := I (h + 1)) (w2 := I (h + 2)) (w3 := I (h + 3)) (w4 := I (h + 4)) (w5 := I (h + 5)) (m := m) hm
  rwa [(show pm I h (I h, I (h + 1), I (h + 2), I (h + 3), I (h + 4), I (h + 5)) = I from pm_self)] at q
theorem G_X0_oreLeft {h : Nat} (hm : MinS G T R h)  : xCon G Y_X0_oreLeft [.ref h] T R L I (xD (some (.int (vSum (I (h + 1)) 12))) T R L I) := by
  have q := C_X0_oreLeft (L := L) (I := I) (f := I h) (w1 := I (h + 1)) (w2 := I (h + 2)) (w3 := I (h + 3)) (w4 := I (h + 4)) (w5 := I (h + 5))  hm
  rwa [(show pm I h (I h, I (h + 1), I (h + 2), I (h + 3), I (h + 4), I (h + 5)) = I from pm_self)] at q
theorem G_X0_monksOn {h mo : Nat} (hm : MinS G T R h) (hk : MOK mo (mS I h)) {c : Int32} : xCon G Y_X0_monksOn [.ref h, .int c] T R L I (xD (some (.int (vOn (I (h + 5)) c mo))) T R L I) := by
  have q := C_X0_monksOn (L := L) (I := I) (f := I h) (w1 := I (h + 1)) (w2 := I (h + 2)) (w3 := I (h + 3)) (w4 := I (h + 4)) (w5 := I (h + 5)) (cells := c) hm hk.1 hk.2.1
  rwa [(show pm I h (I h, I (h + 1), I (h + 2), I (h + 3), I (h + 4), I (h + 5)) = I from pm_self)] at q
theorem G_X0_forceOf {h mo : Nat} (hm : MinS G T R h) (hk : MOK mo (mS I h)) {v : Int32} (hv : bMonk (I h) v = true) : xCon G Y_X0_forceOf [.ref h, .int v] T R L I (xD (some (.int (vForce mo (I h) (I (h + 5)) v.toNatClampNeg))) T R L I) := by
  obtain ⟨e, hlt⟩ := bLiv_N (f := I h) hk.1 (by have := hk.2.1; omega) hv
  have q := C_X0_forceOf (L := L) (I := I) (f := I h) (w1 := I (h + 1)) (w2 := I (h + 2)) (w3 := I (h + 3)) (w4 := I (h + 4)) (w5 := I (h + 5)) hm hk.1 hk.2.1 hk.2.2 hlt
  rwa [(show pm I h (I h, I (h + 1), I (h + 2), I (h + 3), I (h + 4), I (h + 5)) = I from pm_self), ← e] at q
/-- a prayer of whom isLiving lets pass -/
theorem C_X0_prayerV {h mo : Nat} {f w1 w2 w3 w4 w5 : Nat → Int32} (hm : MinS G T R h) (hk : MOK mo (f, w1, w2, w3, w4, w5)) {v : Int32} (hv : bMonk f v = true) : xCon G Y_X0_prayer [.ref h, .int v] T R L (pm I h (f, w1, w2, w3, w4, w5)) (xD (some (.int (vPr mo (f, w1, w2, w3, w4, w5) v.toNatClampNeg))) T R L (pm I h (gPr mo (f, w1, w2, w3, w4, w5) v.toNatClampNeg))) := by
  obtain ⟨e, hlt⟩ := bLiv_N (f := f) hk.1 (by have := hk.2.1; omega) hv
  have q := C_X0_prayer (L := L) (I := I) (f := f) (w1 := w1) (w2 := w2) (w3 := w3) (w4 := w4) (w5 := w5) hm hk.1 hk.2.1 hk.2.2 hlt
  rwa [← e] at q
theorem G_X0_prayerV {h mo : Nat} (hm : MinS G T R h) (hk : MOK mo (mS I h)) {v : Int32} (hv : bMonk (I h) v = true) : xCon G Y_X0_prayer [.ref h, .int v] T R L I (xD (some (.int (vPr mo (mS I h) v.toNatClampNeg))) T R L (pm I h (gPr mo (mS I h) v.toNatClampNeg))) := by
  have q := C_X0_prayerV (L := L) (I := I) (f := I h) (w1 := I (h + 1)) (w2 := I (h + 2)) (w3 := I (h + 3)) (w4 := I (h + 4)) (w5 := I (h + 5)) hm hk hv
  rwa [(show pm I h (I h, I (h + 1), I (h + 2), I (h + 3), I (h + 4), I (h + 5)) = I from pm_self)] at q
theorem G_X0_endDay {h mo : Nat} (hm : MinS G T R h) (hk : MOK mo (mS I h)) : xCon G Y_X0_endDay [.ref h] T R L I (xD (some (.int (vEdv mo (mS I h)))) T R L (pm I h (gEd mo (mS I h)))) := by
  have q := C_X0_endDay (L := L) (I := I) (f := I h) (w1 := I (h + 1)) (w2 := I (h + 2)) (w3 := I (h + 3)) (w4 := I (h + 4)) (w5 := I (h + 5)) hm hk.1 hk.2.1
  rwa [(show pm I h (I h, I (h + 1), I (h + 2), I (h + 3), I (h + 4), I (h + 5)) = I from pm_self)] at q
set_option maxHeartbeats 4000000 in
set_option maxRecDepth 100000 in
theorem C_X2_wipe {x : Nat} (hX : XS G T R x)  : xCon G Y_X2_wipe [.ref x] T R L I (xD (some (.int (I x 1))) T R L (xst I x 1 (nI 0))) := by
  obtain ⟨x0, xt, xts, xr, hrd, xn, hn, xtr, htr, xs, xss, xp, xps, xq, xqs, xqr, xqm, xc, xcs, xo, xos, hpool⟩ := id hX
  obtain ⟨n0, nr0, nr1, nr2, nr3, nr4, ns1, ns2, ns3, ns4, ns5⟩ := id hn
  have t0 := htr.1
  have d0 := hrd.1
  refine xCon.mk (xl := [some (.ref x), none]) (by decide +kernel) (xle_r _) rfl (Nat.le_of_ble_eq_true rfl) rfl ?_
  refine xV_aload_n e_X2_wipe_0 rfl ?_
  refine xV_getI e_X2_wipe_1 f_X2_46 (by assumption) ?_
  refine xV_istore_n e_X2_wipe_4 (Nat.le_of_ble_eq_true rfl) rfl ?_
  refine xV_aload_n e_X2_wipe_5 rfl ?_
  refine xV_iconst (v := (nI 0)) e_X2_wipe_6 (by decide) ?_
  refine xV_putI e_X2_wipe_7 p_X2_46 (by assumption) ?_
  refine xV_iload_n e_X2_wipe_10 rfl ?_
  exact xV_ireturn e_X2_wipe_11 rfl rfl ⟨rfl, rfl, rfl, rfl⟩
set_option maxHeartbeats 4000000 in
set_option maxRecDepth 100000 in
theorem C_X2_unsee {x : Nat} (hX : XS G T R x)  : xCon G Y_X2_unsee [.ref x] T R L I (xD (some (.int (I x 12))) T R L (xst I x 12 (nI 0))) := by
  obtain ⟨x0, xt, xts, xr, hrd, xn, hn, xtr, htr, xs, xss, xp, xps, xq, xqs, xqr, xqm, xc, xcs, xo, xos, hpool⟩ := id hX
  obtain ⟨n0, nr0, nr1, nr2, nr3, nr4, ns1, ns2, ns3, ns4, ns5⟩ := id hn
  have t0 := htr.1
  have d0 := hrd.1
  refine xCon.mk (xl := [some (.ref x), none]) (by decide +kernel) (xle_r _) rfl (Nat.le_of_ble_eq_true rfl) rfl ?_
  refine xV_aload_n e_X2_unsee_0 rfl ?_
  refine xV_getI e_X2_unsee_1 f_X2_92 (by assumption) ?_
  refine xV_istore_n e_X2_unsee_4 (Nat.le_of_ble_eq_true rfl) rfl ?_
  refine xV_aload_n e_X2_unsee_5 rfl ?_
  refine xV_iconst (v := (nI 0)) e_X2_unsee_6 (by decide) ?_
  refine xV_putI e_X2_unsee_7 p_X2_92 (by assumption) ?_
  refine xV_iload_n e_X2_unsee_10 rfl ?_
  exact xV_ireturn e_X2_unsee_11 rfl rfl ⟨rfl, rfl, rfl, rfl⟩
set_option maxHeartbeats 4000000 in
set_option maxRecDepth 100000 in
theorem C_X2_seed {x : Nat} (hX : XS G T R x) {v : Int64} : xCon G Y_X2_seed [.ref x, .long v] T R L I (xD (some (.long (L x 13))) T R (xsl L x 13 v) I) := by
  obtain ⟨x0, xt, xts, xr, hrd, xn, hn, xtr, htr, xs, xss, xp, xps, xq, xqs, xqr, xqm, xc, xcs, xo, xos, hpool⟩ := id hX
  obtain ⟨n0, nr0, nr1, nr2, nr3, nr4, ns1, ns2, ns3, ns4, ns5⟩ := id hn
  have t0 := htr.1
  have d0 := hrd.1
  refine xCon.mk (xl := [some (.ref x), some (.long v), none, none, none]) (by decide +kernel) (xle_r _) rfl (Nat.le_of_ble_eq_true rfl) rfl ?_
  refine xV_aload_n e_X2_seed_0 rfl ?_
  refine xV_getL e_X2_seed_1 f_X2_198 (by assumption) ?_
  refine xV_lstore_n e_X2_seed_4 (Nat.le_of_ble_eq_true rfl) rfl ?_
  refine xV_aload_n e_X2_seed_5 rfl ?_
  refine xV_lload_n e_X2_seed_6 rfl ?_
  refine xV_putL e_X2_seed_7 p_X2_198 (by assumption) ?_
  refine xV_lload_n e_X2_seed_10 rfl ?_
  exact xV_lreturn e_X2_seed_11 rfl rfl ⟨rfl, rfl, rfl, rfl⟩
def qAbout (S : xS) (acts seen len what : Int32) : Int32 :=
  if what = nI 0 then S.1 5 else if what = nI 1 then S.1 6 else if what = nI 2 then S.1 11 else if what = nI 3 then S.1 10 else if what = nI 4 then S.1 9 else if what = nI 5 then S.1 8 else if what = nI 6 then vSum S.2.1 12
  else if what = nI 7 then acts else if what = nI 8 then seen else if what = nI 9 then len else (-2)
set_option maxHeartbeats 4000000 in
set_option maxRecDepth 100000 in
theorem C_X2_about {x : Nat} (hX : XS G T R x) {what : Int32} : xCon G Y_X2_about [.ref x, .int what] T R L I (xD (some (.int (qAbout (mS I (x + 9)) (I x 7) (I x 12) (I x 1) what))) T R L I) := by
  obtain ⟨x0, xt, xts, xr, hrd, xn, hn, xtr, htr, xs, xss, xp, xps, xq, xqs, xqr, xqm, xc, xcs, xo, xos, hpool⟩ := id hX
  obtain ⟨n0, nr0, nr1, nr2, nr3, nr4, ns1, ns2, ns3, ns4, ns5⟩ := id hn
  have t0 := htr.1
  have d0 := hrd.1
  refine xCon.mk (xl := [some (.ref x), some (.int what)]) (by decide +kernel) (xle_r _) rfl (Nat.le_of_ble_eq_true rfl) rfl ?_
  refine xV_iload_n e_X2_about_0 rfl ?_
  by_cases s1_0 : what = nI 0
  · refine xV_tswIn (off := 55) (tgt := 56) e_X2_about_1 (by rw [s1_0]; decide) (by rw [s1_0]; decide) (by rw [s1_0]; rfl) (by decide) ?_
    refine xV_aload_n e_X2_about_56 rfl ?_
    refine xV_getR e_X2_about_57 f_X2_23 (by assumption) (by assumption) ?_
    refine xV_getI e_X2_about_60 f_X2_74 (by assumption) ?_
    exact xV_ireturn e_X2_about_63 rfl rfl (by rw [qAbout, if_pos s1_0]; exact ⟨rfl, rfl, rfl, rfl⟩)
  by_cases s1_1 : what = nI 1
  · refine xV_tswIn (off := 63) (tgt := 64) e_X2_about_1 (by rw [s1_1]; decide) (by rw [s1_1]; decide) (by rw [s1_1]; rfl) (by decide) ?_
    refine xV_aload_n e_X2_about_64 rfl ?_
    refine xV_getR e_X2_about_65 f_X2_23 (by assumption) (by assumption) ?_
    refine xV_getI e_X2_about_68 f_X2_71 (by assumption) ?_
    exact xV_ireturn e_X2_about_71 rfl rfl (by rw [qAbout, if_neg s1_0, if_pos s1_1]; exact ⟨rfl, rfl, rfl, rfl⟩)
  by_cases s1_2 : what = nI 2
  · refine xV_tswIn (off := 71) (tgt := 72) e_X2_about_1 (by rw [s1_2]; decide) (by rw [s1_2]; decide) (by rw [s1_2]; rfl) (by decide) ?_
    refine xV_aload_n e_X2_about_72 rfl ?_
    refine xV_getR e_X2_about_73 f_X2_23 (by assumption) (by assumption) ?_
    refine xV_getI e_X2_about_76 f_X2_77 (by assumption) ?_
    exact xV_ireturn e_X2_about_79 rfl rfl (by rw [qAbout, if_neg s1_0, if_neg s1_1, if_pos s1_2]; exact ⟨rfl, rfl, rfl, rfl⟩)
  by_cases s1_3 : what = nI 3
  · refine xV_tswIn (off := 79) (tgt := 80) e_X2_about_1 (by rw [s1_3]; decide) (by rw [s1_3]; decide) (by rw [s1_3]; rfl) (by decide) ?_
    refine xV_aload_n e_X2_about_80 rfl ?_
    refine xV_getR e_X2_about_81 f_X2_23 (by assumption) (by assumption) ?_
    refine xV_getI e_X2_about_84 f_X2_80 (by assumption) ?_
    exact xV_ireturn e_X2_about_87 rfl rfl (by rw [qAbout, if_neg s1_0, if_neg s1_1, if_neg s1_2, if_pos s1_3]; exact ⟨rfl, rfl, rfl, rfl⟩)
  by_cases s1_4 : what = nI 4
  · refine xV_tswIn (off := 87) (tgt := 88) e_X2_about_1 (by rw [s1_4]; decide) (by rw [s1_4]; decide) (by rw [s1_4]; rfl) (by decide) ?_
    refine xV_aload_n e_X2_about_88 rfl ?_
    refine xV_getR e_X2_about_89 f_X2_23 (by assumption) (by assumption) ?_
    refine xV_getI e_X2_about_92 f_X2_83 (by assumption) ?_
    exact xV_ireturn e_X2_about_95 rfl rfl (by rw [qAbout, if_neg s1_0, if_neg s1_1, if_neg s1_2, if_neg s1_3, if_pos s1_4]; exact ⟨rfl, rfl, rfl, rfl⟩)
  by_cases s1_5 : what = nI 5
  · refine xV_tswIn (off := 95) (tgt := 96) e_X2_about_1 (by rw [s1_5]; decide) (by rw [s1_5]; decide) (by rw [s1_5]; rfl) (by decide) ?_
    refine xV_aload_n e_X2_about_96 rfl ?_
    refine xV_getR e_X2_about_97 f_X2_23 (by assumption) (by assumption) ?_
    refine xV_getI e_X2_about_100 f_X2_86 (by assumption) ?_
    exact xV_ireturn e_X2_about_103 rfl rfl (by rw [qAbout, if_neg s1_0, if_neg s1_1, if_neg s1_2, if_neg s1_3, if_neg s1_4, if_pos s1_5]; exact ⟨rfl, rfl, rfl, rfl⟩)
  by_cases s1_6 : what = nI 6
  · refine xV_tswIn (off := 103) (tgt := 104) e_X2_about_1 (by rw [s1_6]; decide) (by rw [s1_6]; decide) (by rw [s1_6]; rfl) (by decide) ?_
    refine xV_aload_n e_X2_about_104 rfl ?_
    refine xV_getR e_X2_about_105 f_X2_23 (by assumption) (by assumption) ?_
    refine xV_cV0i e_X2_about_108 c_X2_89 (by assumption) (G_X0_oreLeft (by assumption)) (Nat.le_of_ble_eq_true rfl) ⟨(Nat.le_of_ble_eq_true rfl), (Nat.le_of_ble_eq_true rfl)⟩ (xle_r _) (xle_r _) ?_
    exact xV_ireturn e_X2_about_111 rfl rfl (by rw [qAbout, if_neg s1_0, if_neg s1_1, if_neg s1_2, if_neg s1_3, if_neg s1_4, if_neg s1_5, if_pos s1_6]; exact ⟨rfl, rfl, rfl, rfl⟩)
  by_cases s1_7 : what = nI 7
  · refine xV_tswIn (off := 111) (tgt := 112) e_X2_about_1 (by rw [s1_7]; decide) (by rw [s1_7]; decide) (by rw [s1_7]; rfl) (by decide) ?_
    refine xV_aload_n e_X2_about_112 rfl ?_
    refine xV_getI e_X2_about_113 f_X2_65 (by assumption) ?_
    exact xV_ireturn e_X2_about_116 rfl rfl (by rw [qAbout, if_neg s1_0, if_neg s1_1, if_neg s1_2, if_neg s1_3, if_neg s1_4, if_neg s1_5, if_neg s1_6, if_pos s1_7]; exact ⟨rfl, rfl, rfl, rfl⟩)
  by_cases s1_8 : what = nI 8
  · refine xV_tswIn (off := 116) (tgt := 117) e_X2_about_1 (by rw [s1_8]; decide) (by rw [s1_8]; decide) (by rw [s1_8]; rfl) (by decide) ?_
    refine xV_aload_n e_X2_about_117 rfl ?_
    refine xV_getI e_X2_about_118 f_X2_92 (by assumption) ?_
    exact xV_ireturn e_X2_about_121 rfl rfl (by rw [qAbout, if_neg s1_0, if_neg s1_1, if_neg s1_2, if_neg s1_3, if_neg s1_4, if_neg s1_5, if_neg s1_6, if_neg s1_7, if_pos s1_8]; exact ⟨rfl, rfl, rfl, rfl⟩)
  by_cases s1_9 : what = nI 9
  · refine xV_tswIn (off := 121) (tgt := 122) e_X2_about_1 (by rw [s1_9]; decide) (by rw [s1_9]; decide) (by rw [s1_9]; rfl) (by decide) ?_
    refine xV_aload_n e_X2_about_122 rfl ?_
    refine xV_getI e_X2_about_123 f_X2_46 (by assumption) ?_
    exact xV_ireturn e_X2_about_126 rfl rfl (by rw [qAbout, if_neg s1_0, if_neg s1_1, if_neg s1_2, if_neg s1_3, if_neg s1_4, if_neg s1_5, if_neg s1_6, if_neg s1_7, if_neg s1_8, if_pos s1_9]; exact ⟨rfl, rfl, rfl, rfl⟩)
  refine xV_tswOut (tgt := 127) e_X2_about_1 (tsw_out (n := 9) (by decide) (fun k hk => by
    have e : k = 0 ∨ k = 1 ∨ k = 2 ∨ k = 3 ∨ k = 4 ∨ k = 5 ∨ k = 6 ∨ k = 7 ∨ k = 8 ∨ k = 9 := by omega
    rcases e with rfl | rfl | rfl | rfl | rfl | rfl | rfl | rfl | rfl | rfl <;> assumption)) (by decide) ?_
  refine xV_bipush (v := (-2)) e_X2_about_127 (by decide) ?_
  exact xV_ireturn e_X2_about_129 rfl rfl (by rw [qAbout, if_neg s1_0, if_neg s1_1, if_neg s1_2, if_neg s1_3, if_neg s1_4, if_neg s1_5, if_neg s1_6, if_neg s1_7, if_neg s1_8, if_neg s1_9]; exact ⟨rfl, rfl, rfl, rfl⟩)
def qCell (mo : Nat) (S : xS) (c what : Int32) : Int32 :=
  if bCell c = true then
    (if what = nI 0 then xat 12 S.2.1 c else if what = nI 1 then xat 12 S.2.2.1 c else if what = nI 2 then xat 12 S.2.2.2.1 c else if what = nI 3 then xat 12 S.2.2.2.2.1 c else if what = nI 4 then xb (hs (S.1 9) c)
    else if what = nI 5 then vOn S.2.2.2.2.2 (nI 1 <<< (c &&& 31)) mo else (-2))
  else (-1)
def qMonk (mo : Nat) (S : xS) (m what : Int32) : Int32 :=
  if bMonk S.1 m = true then
    (if what = nI 0 then xat 4 S.2.2.2.2.2 m else if what = nI 1 then (S.1 7 >>> (m &&& 31)) &&& nI 1 else if what = nI 2 then (S.1 8 >>> (m &&& 31)) &&& nI 1 else if what = nI 3 then vForce mo S.1 S.2.2.2.2.2 m.toNatClampNeg else (-2))
  else (-1)
def qFalls (mo : Nat) (S : xS) (m : Int32) : Int32 := if bMonk S.1 m = true then (if bLiv S.1 m = true then vPr mo S m.toNatClampNeg else (-3)) else (-1)
set_option maxHeartbeats 4000000 in
set_option maxRecDepth 100000 in
theorem C_X2_cell {x : Nat} (hX : XS G T R x) {mo : Nat} (hk : MOK mo (mS I (x + 9))) {c what : Int32} : xCon G Y_X2_cell [.ref x, .int c, .int what] T R L I (xD (some (.int (qCell mo (mS I (x + 9)) c what))) T R L I) := by
  obtain ⟨x0, xt, xts, xr, hrd, xn, hn, xtr, htr, xs, xss, xp, xps, xq, xqs, xqr, xqm, xc, xcs, xo, xos, hpool⟩ := id hX
  obtain ⟨n0, nr0, nr1, nr2, nr3, nr4, ns1, ns2, ns3, ns4, ns5⟩ := id hn
  have t0 := htr.1
  have d0 := hrd.1
  refine xCon.mk (xl := [some (.ref x), some (.int c), some (.int what)]) (by decide +kernel) (xle_r _) rfl (Nat.le_of_ble_eq_true rfl) rfl ?_
  refine xV_iload_n e_X2_cell_0 rfl ?_
  refine xV_cS1i e_X2_cell_1 c_X2_95 (C_X2_isCell) (Nat.le_of_ble_eq_true rfl) ⟨(Nat.le_of_ble_eq_true rfl), (Nat.le_of_ble_eq_true rfl)⟩ (xle_r _) (xle_r _) ?_
  refine xV_if_neB e_X2_cell_4 (fun h4 => ?_) (fun h4 => ?_)
  · refine xV_iload_n e_X2_cell_9 rfl ?_
    by_cases s10_0 : what = nI 0
    · refine xV_tswIn (off := 38) (tgt := 48) e_X2_cell_10 (by rw [s10_0]; decide) (by rw [s10_0]; decide) (by rw [s10_0]; rfl) (by decide) ?_
      refine xV_aload_n e_X2_cell_48 rfl ?_
      refine xV_getR e_X2_cell_49 f_X2_23 (by assumption) (by assumption) ?_
      refine xV_getR e_X2_cell_52 f_X2_99 (by assumption) (by assumption) ?_
      refine xV_iload_n e_X2_cell_55 rfl ?_
      refine xV_cS2i e_X2_cell_56 c_X2_102 (C_X2_at (xRow.of ns1) (by omega)) (Nat.le_of_ble_eq_true rfl) ⟨(Nat.le_of_ble_eq_true rfl), (Nat.le_of_ble_eq_true rfl)⟩ (xle_r _) (xle_r _) ?_
      exact xV_ireturn e_X2_cell_59 rfl rfl (by rw [qCell, if_pos h4, if_pos s10_0]; exact ⟨rfl, rfl, rfl, rfl⟩)
    by_cases s10_1 : what = nI 1
    · refine xV_tswIn (off := 50) (tgt := 60) e_X2_cell_10 (by rw [s10_1]; decide) (by rw [s10_1]; decide) (by rw [s10_1]; rfl) (by decide) ?_
      refine xV_aload_n e_X2_cell_60 rfl ?_
      refine xV_getR e_X2_cell_61 f_X2_23 (by assumption) (by assumption) ?_
      refine xV_getR e_X2_cell_64 f_X2_106 (by assumption) (by assumption) ?_
      refine xV_iload_n e_X2_cell_67 rfl ?_
      refine xV_cS2i e_X2_cell_68 c_X2_102 (C_X2_at (xRow.of ns2) (by omega)) (Nat.le_of_ble_eq_true rfl) ⟨(Nat.le_of_ble_eq_true rfl), (Nat.le_of_ble_eq_true rfl)⟩ (xle_r _) (xle_r _) ?_
      exact xV_ireturn e_X2_cell_71 rfl rfl (by rw [qCell, if_pos h4, if_neg s10_0, if_pos s10_1]; exact ⟨rfl, rfl, rfl, rfl⟩)
    by_cases s10_2 : what = nI 2
    · refine xV_tswIn (off := 62) (tgt := 72) e_X2_cell_10 (by rw [s10_2]; decide) (by rw [s10_2]; decide) (by rw [s10_2]; rfl) (by decide) ?_
      refine xV_aload_n e_X2_cell_72 rfl ?_
      refine xV_getR e_X2_cell_73 f_X2_23 (by assumption) (by assumption) ?_
      refine xV_getR e_X2_cell_76 f_X2_109 (by assumption) (by assumption) ?_
      refine xV_iload_n e_X2_cell_79 rfl ?_
      refine xV_cS2i e_X2_cell_80 c_X2_102 (C_X2_at (xRow.of ns3) (by omega)) (Nat.le_of_ble_eq_true rfl) ⟨(Nat.le_of_ble_eq_true rfl), (Nat.le_of_ble_eq_true rfl)⟩ (xle_r _) (xle_r _) ?_
      exact xV_ireturn e_X2_cell_83 rfl rfl (by rw [qCell, if_pos h4, if_neg s10_0, if_neg s10_1, if_pos s10_2]; exact ⟨rfl, rfl, rfl, rfl⟩)
    by_cases s10_3 : what = nI 3
    · refine xV_tswIn (off := 74) (tgt := 84) e_X2_cell_10 (by rw [s10_3]; decide) (by rw [s10_3]; decide) (by rw [s10_3]; rfl) (by decide) ?_
      refine xV_aload_n e_X2_cell_84 rfl ?_
      refine xV_getR e_X2_cell_85 f_X2_23 (by assumption) (by assumption) ?_
      refine xV_getR e_X2_cell_88 f_X2_112 (by assumption) (by assumption) ?_
      refine xV_iload_n e_X2_cell_91 rfl ?_
      refine xV_cS2i e_X2_cell_92 c_X2_102 (C_X2_at (xRow.of ns4) (by omega)) (Nat.le_of_ble_eq_true rfl) ⟨(Nat.le_of_ble_eq_true rfl), (Nat.le_of_ble_eq_true rfl)⟩ (xle_r _) (xle_r _) ?_
      exact xV_ireturn e_X2_cell_95 rfl rfl (by rw [qCell, if_pos h4, if_neg s10_0, if_neg s10_1, if_neg s10_2, if_pos s10_3]; exact ⟨rfl, rfl, rfl, rfl⟩)
    by_cases s10_4 : what = nI 4
    · refine xV_tswIn (off := 86) (tgt := 96) e_X2_cell_10 (by rw [s10_4]; decide) (by rw [s10_4]; decide) (by rw [s10_4]; rfl) (by decide) ?_
      refine xV_aload_n e_X2_cell_96 rfl ?_
      refine xV_getR e_X2_cell_97 f_X2_23 (by assumption) (by assumption) ?_
      refine xV_iload_n e_X2_cell_100 rfl ?_
      refine xV_cV1i e_X2_cell_101 c_X2_115 (by assumption) (G_X0_isFallen (by assumption)) (Nat.le_of_ble_eq_true rfl) ⟨(Nat.le_of_ble_eq_true rfl), (Nat.le_of_ble_eq_true rfl)⟩ (xle_r _) (xle_r _) ?_
      refine xV_if_eqB e_X2_cell_104 (fun h104 => ?_) (fun h104 => ?_)
      · refine xV_iconst (v := (nI 0)) e_X2_cell_111 (by decide) ?_
        exact xV_ireturn e_X2_cell_112 rfl rfl (by rw [qCell, if_pos h4, if_neg s10_0, if_neg s10_1, if_neg s10_2, if_neg s10_3, if_pos s10_4]; exact ⟨xret_f h104, rfl, rfl, rfl⟩)
      · refine xV_iconst (v := (nI 1)) e_X2_cell_107 (by decide) ?_
        refine xV_goto e_X2_cell_108 ?_
        exact xV_ireturn e_X2_cell_112 rfl rfl (by rw [qCell, if_pos h4, if_neg s10_0, if_neg s10_1, if_neg s10_2, if_neg s10_3, if_pos s10_4]; exact ⟨xret_t h104, rfl, rfl, rfl⟩)
    by_cases s10_5 : what = nI 5
    · refine xV_tswIn (off := 103) (tgt := 113) e_X2_cell_10 (by rw [s10_5]; decide) (by rw [s10_5]; decide) (by rw [s10_5]; rfl) (by decide) ?_
      refine xV_aload_n e_X2_cell_113 rfl ?_
      refine xV_getR e_X2_cell_114 f_X2_23 (by assumption) (by assumption) ?_
      refine xV_iconst (v := (nI 1)) e_X2_cell_117 (by decide) ?_
      refine xV_iload_n e_X2_cell_118 rfl ?_
      refine xV_ishl e_X2_cell_119 ?_
      refine xV_cV1i e_X2_cell_120 c_X2_118 (by assumption) (G_X0_monksOn (by assumption) hk) (Nat.le_of_ble_eq_true rfl) ⟨(Nat.le_of_ble_eq_true rfl), (Nat.le_of_ble_eq_true rfl)⟩ (xle_r _) (xle_r _) ?_
      exact xV_ireturn e_X2_cell_123 rfl rfl (by rw [qCell, if_pos h4, if_neg s10_0, if_neg s10_1, if_neg s10_2, if_neg s10_3, if_neg s10_4, if_pos s10_5]; exact ⟨rfl, rfl, rfl, rfl⟩)
    refine xV_tswOut (tgt := 124) e_X2_cell_10 (tsw_out (n := 5) (by decide) (fun k hk => by
      have e : k = 0 ∨ k = 1 ∨ k = 2 ∨ k = 3 ∨ k = 4 ∨ k = 5 := by omega
      rcases e with rfl | rfl | rfl | rfl | rfl | rfl <;> assumption)) (by decide) ?_
    refine xV_bipush (v := (-2)) e_X2_cell_124 (by decide) ?_
    exact xV_ireturn e_X2_cell_126 rfl rfl (by rw [qCell, if_pos h4, if_neg s10_0, if_neg s10_1, if_neg s10_2, if_neg s10_3, if_neg s10_4, if_neg s10_5]; exact ⟨rfl, rfl, rfl, rfl⟩)
  · refine xV_iconst (v := (-1)) e_X2_cell_7 (by decide) ?_
    exact xV_ireturn e_X2_cell_8 rfl rfl (by rw [qCell, if_neg (by rw [h4]; decide)]; exact ⟨rfl, rfl, rfl, rfl⟩)
set_option maxHeartbeats 4000000 in
set_option maxRecDepth 100000 in
theorem C_X2_monk {x : Nat} (hX : XS G T R x) {mo : Nat} (hk : MOK mo (mS I (x + 9))) {m what : Int32} : xCon G Y_X2_monk [.ref x, .int m, .int what] T R L I (xD (some (.int (qMonk mo (mS I (x + 9)) m what))) T R L I) := by
  obtain ⟨x0, xt, xts, xr, hrd, xn, hn, xtr, htr, xs, xss, xp, xps, xq, xqs, xqr, xqm, xc, xcs, xo, xos, hpool⟩ := id hX
  obtain ⟨n0, nr0, nr1, nr2, nr3, nr4, ns1, ns2, ns3, ns4, ns5⟩ := id hn
  have t0 := htr.1
  have d0 := hrd.1
  refine xCon.mk (xl := [some (.ref x), some (.int m), some (.int what)]) (by decide +kernel) (xle_r _) rfl (Nat.le_of_ble_eq_true rfl) rfl ?_
  refine xV_aload_n e_X2_monk_0 rfl ?_
  refine xV_getR e_X2_monk_1 f_X2_23 (by assumption) (by assumption) ?_
  refine xV_iload_n e_X2_monk_4 rfl ?_
  refine xV_cV1i e_X2_monk_5 c_X2_122 (by assumption) (G_X0_isMonk (by assumption)) (Nat.le_of_ble_eq_true rfl) ⟨(Nat.le_of_ble_eq_true rfl), (Nat.le_of_ble_eq_true rfl)⟩ (xle_r _) (xle_r _) ?_
  refine xV_if_neB e_X2_monk_8 (fun h8 => ?_) (fun h8 => ?_)
  · refine xV_iload_n e_X2_monk_13 rfl ?_
    by_cases s14_0 : what = nI 0
    · refine xV_tswIn (off := 30) (tgt := 44) e_X2_monk_14 (by rw [s14_0]; decide) (by rw [s14_0]; decide) (by rw [s14_0]; rfl) (by decide) ?_
      refine xV_aload_n e_X2_monk_44 rfl ?_
      refine xV_getR e_X2_monk_45 f_X2_23 (by assumption) (by assumption) ?_
      refine xV_iload_n e_X2_monk_48 rfl ?_
      refine xV_cV1i e_X2_monk_49 c_X2_125 (by assumption) (G_X0_placeOf (by assumption)) (Nat.le_of_ble_eq_true rfl) ⟨(Nat.le_of_ble_eq_true rfl), (Nat.le_of_ble_eq_true rfl)⟩ (xle_r _) (xle_r _) ?_
      exact xV_ireturn e_X2_monk_52 rfl rfl (by rw [qMonk, if_pos (show bMonk (mS I (x + 9)).1 m = true from h8), if_pos s14_0]; exact ⟨rfl, rfl, rfl, rfl⟩)
    by_cases s14_1 : what = nI 1
    · refine xV_tswIn (off := 39) (tgt := 53) e_X2_monk_14 (by rw [s14_1]; decide) (by rw [s14_1]; decide) (by rw [s14_1]; rfl) (by decide) ?_
      refine xV_aload_n e_X2_monk_53 rfl ?_
      refine xV_getR e_X2_monk_54 f_X2_23 (by assumption) (by assumption) ?_
      refine xV_getI e_X2_monk_57 f_X2_128 (by assumption) ?_
      refine xV_iload_n e_X2_monk_60 rfl ?_
      refine xV_ishr e_X2_monk_61 ?_
      refine xV_iconst (v := (nI 1)) e_X2_monk_62 (by decide) ?_
      refine xV_iand e_X2_monk_63 ?_
      exact xV_ireturn e_X2_monk_64 rfl rfl (by rw [qMonk, if_pos (show bMonk (mS I (x + 9)).1 m = true from h8), if_neg s14_0, if_pos s14_1]; exact ⟨rfl, rfl, rfl, rfl⟩)
    by_cases s14_2 : what = nI 2
    · refine xV_tswIn (off := 51) (tgt := 65) e_X2_monk_14 (by rw [s14_2]; decide) (by rw [s14_2]; decide) (by rw [s14_2]; rfl) (by decide) ?_
      refine xV_aload_n e_X2_monk_65 rfl ?_
      refine xV_getR e_X2_monk_66 f_X2_23 (by assumption) (by assumption) ?_
      refine xV_getI e_X2_monk_69 f_X2_86 (by assumption) ?_
      refine xV_iload_n e_X2_monk_72 rfl ?_
      refine xV_ishr e_X2_monk_73 ?_
      refine xV_iconst (v := (nI 1)) e_X2_monk_74 (by decide) ?_
      refine xV_iand e_X2_monk_75 ?_
      exact xV_ireturn e_X2_monk_76 rfl rfl (by rw [qMonk, if_pos (show bMonk (mS I (x + 9)).1 m = true from h8), if_neg s14_0, if_neg s14_1, if_pos s14_2]; exact ⟨rfl, rfl, rfl, rfl⟩)
    by_cases s14_3 : what = nI 3
    · refine xV_tswIn (off := 63) (tgt := 77) e_X2_monk_14 (by rw [s14_3]; decide) (by rw [s14_3]; decide) (by rw [s14_3]; rfl) (by decide) ?_
      refine xV_aload_n e_X2_monk_77 rfl ?_
      refine xV_getR e_X2_monk_78 f_X2_23 (by assumption) (by assumption) ?_
      refine xV_iload_n e_X2_monk_81 rfl ?_
      refine xV_cV1i e_X2_monk_82 c_X2_131 (by assumption) (G_X0_forceOf (by assumption) hk (by assumption)) (Nat.le_of_ble_eq_true rfl) ⟨(Nat.le_of_ble_eq_true rfl), (Nat.le_of_ble_eq_true rfl)⟩ (xle_r _) (xle_r _) ?_
      exact xV_ireturn e_X2_monk_85 rfl rfl (by rw [qMonk, if_pos (show bMonk (mS I (x + 9)).1 m = true from h8), if_neg s14_0, if_neg s14_1, if_neg s14_2, if_pos s14_3]; exact ⟨rfl, rfl, rfl, rfl⟩)
    refine xV_tswOut (tgt := 86) e_X2_monk_14 (tsw_out (n := 3) (by decide) (fun k hk => by
      have e : k = 0 ∨ k = 1 ∨ k = 2 ∨ k = 3 := by omega
      rcases e with rfl | rfl | rfl | rfl <;> assumption)) (by decide) ?_
    refine xV_bipush (v := (-2)) e_X2_monk_86 (by decide) ?_
    exact xV_ireturn e_X2_monk_88 rfl rfl (by rw [qMonk, if_pos (show bMonk (mS I (x + 9)).1 m = true from h8), if_neg s14_0, if_neg s14_1, if_neg s14_2, if_neg s14_3]; exact ⟨rfl, rfl, rfl, rfl⟩)
  · refine xV_iconst (v := (-1)) e_X2_monk_11 (by decide) ?_
    exact xV_ireturn e_X2_monk_12 rfl rfl (by rw [qMonk, if_neg (by rw [show bMonk (mS I (x + 9)).1 m = false from h8]; decide)]; exact ⟨rfl, rfl, rfl, rfl⟩)
set_option maxHeartbeats 4000000 in
set_option maxRecDepth 100000 in
theorem C_X2_falls {x : Nat} (hX : XS G T R x) {mo : Nat} (hk : MOK mo (mS I (x + 9))) {m : Int32} : xCon G Y_X2_falls [.ref x, .int m] T R L I ((T, fun v R2 L2 I2 => ∃ r, v = some (.int r) ∧ (r = qFalls mo (mS I (x + 9)) m ∧ R2 = R ∧ L2 = L ∧ Scr x I I2))) := by
  obtain ⟨x0, xt, xts, xr, hrd, xn, hn, xtr, htr, xs, xss, xp, xps, xq, xqs, xqr, xqm, xc, xcs, xo, xos, hpool⟩ := id hX
  obtain ⟨n0, nr0, nr1, nr2, nr3, nr4, ns1, ns2, ns3, ns4, ns5⟩ := id hn
  have t0 := htr.1
  have d0 := hrd.1
  refine xCon.mk (xl := [some (.ref x), some (.int m)]) (by decide +kernel) (xle_r _) rfl (Nat.le_of_ble_eq_true rfl) rfl ?_
  refine xV_aload_n e_X2_falls_0 rfl ?_
  refine xV_getR e_X2_falls_1 f_X2_23 (by assumption) (by assumption) ?_
  refine xV_iload_n e_X2_falls_4 rfl ?_
  refine xV_cV1i e_X2_falls_5 c_X2_122 (by assumption) (G_X0_isMonk (by assumption)) (Nat.le_of_ble_eq_true rfl) ⟨(Nat.le_of_ble_eq_true rfl), (Nat.le_of_ble_eq_true rfl)⟩ (xle_r _) (xle_r _) ?_
  refine xV_if_neB e_X2_falls_8 (fun h8 => ?_) (fun h8 => ?_)
  · refine xV_aload_n e_X2_falls_13 rfl ?_
    refine xV_getR e_X2_falls_14 f_X2_23 (by assumption) (by assumption) ?_
    refine xV_iload_n e_X2_falls_17 rfl ?_
    refine xV_cV1i e_X2_falls_18 c_X2_134 (by assumption) (G_X0_isLiving (by assumption)) (Nat.le_of_ble_eq_true rfl) ⟨(Nat.le_of_ble_eq_true rfl), (Nat.le_of_ble_eq_true rfl)⟩ (xle_r _) (xle_r _) ?_
    refine xV_if_neB e_X2_falls_21 (fun h21 => ?_) (fun h21 => ?_)
    · refine xV_aload_n e_X2_falls_27 rfl ?_
      refine xV_getR e_X2_falls_28 f_X2_27 (by assumption) (by assumption) ?_
      refine xV_aload_n e_X2_falls_31 rfl ?_
      refine xV_getR e_X2_falls_32 f_X2_23 (by assumption) (by assumption) ?_
      refine xV_cV1v e_X2_falls_35 c_X2_61 (by assumption) (C_X0_take htr hn (by omega)) (Nat.le_of_ble_eq_true rfl) ⟨(Nat.le_of_ble_eq_true rfl), (Nat.le_of_ble_eq_true rfl)⟩ (xle_r _) (xle_r _) ?_
      refine xV_aload_n e_X2_falls_38 rfl ?_
      refine xV_getR e_X2_falls_39 f_X2_27 (by assumption) (by assumption) ?_
      refine xV_iload_n e_X2_falls_42 rfl ?_
      refine xV_cV1i e_X2_falls_43 c_X2_140 (by assumption) (C_X0_prayerV htr hk h8) (Nat.le_of_ble_eq_true rfl) ⟨(Nat.le_of_ble_eq_true rfl), (Nat.le_of_ble_eq_true rfl)⟩ (xle_r _) (xle_r _) ?_
      exact xV_ireturn e_X2_falls_46 rfl rfl ⟨_, rfl, by rw [qFalls, if_pos (show bMonk (mS I (x + 9)).1 m = true from h8), if_pos (show bLiv (mS I (x + 9)).1 m = true from h21)]; rfl, rfl, rfl, Scr.trial⟩
    · refine xV_bipush (v := (-3)) e_X2_falls_24 (by decide) ?_
      exact xV_ireturn e_X2_falls_26 rfl rfl ⟨_, rfl, by rw [qFalls, if_pos (show bMonk (mS I (x + 9)).1 m = true from h8), if_neg (by rw [show bLiv (mS I (x + 9)).1 m = false from h21]; decide)], rfl, rfl, Scr.rf⟩
  · refine xV_iconst (v := (-1)) e_X2_falls_11 (by decide) ?_
    exact xV_ireturn e_X2_falls_12 rfl rfl ⟨_, rfl, by rw [qFalls, if_neg (by rw [show bMonk (mS I (x + 9)).1 m = false from h8]; decide)], rfl, rfl, Scr.rf⟩
end XPR
