/-! BOTH SIDES AT ONCE: the rest of the calls -/
section XJD
variable {G : xG} {T : xT} {R : xR} {L : xL} {I : xI}
theorem sOk_cg {S : xS} {sc sl sc' sl' : Nat → Int32} : ∀ n i, (∀ j, i ≤ j → j < i + n → sc j = sc' j ∧ sl j = sl' j) → sOk S sc sl n i = sOk S sc' sl' n i := by
  intro n
  induction n with
  | zero => intro i _; rfl
  | succ n ih =>
    intro i h
    obtain ⟨e1, e2⟩ := h i (by omega) (by omega)
    rw [sOk, sOk, e1, e2, ih (i + 1) (fun j h1 h2 => h j (by omega) (by omega))]
theorem sF_cg {mo seen : Nat} {S : xS} {sc sl sc' sl' : Nat → Int32} (h : ∀ j, j < seen → sc j = sc' j ∧ sl j = sl' j) : ∀ k, sF mo S sc sl seen k = sF mo S sc' sl' seen k := by
  intro k
  induction k with
  | zero => rfl
  | succ k ih =>
    have e : bSil mo S sc sl seen (nI k) = bSil mo S sc' sl' seen (nI k) := sOk_cg seen 0 (fun j _ h2 => h j (by omega))
    rw [sF, sF, ih, e]
theorem qSil_cg {mo seen : Nat} {S : xS} {sc sl sc' sl' : Nat → Int32} {what : Int32} (h : ∀ j, j < seen → sc j = sc' j ∧ sl j = sl' j) : qSilent mo S sc sl seen what = qSilent mo S sc' sl' seen what := by
  unfold qSilent
  rw [sF_cg h]
theorem J2_silent {x m E mo na len seen : Nat} {p : Nat → Nat} {I1 : xI} {what : Int32} (hm : m = x + 122) (hX : XS G T R x) (hM : XM G T R m) (h : JD x m E mo na len seen p R L I) (hS : Scr x I I1) :
    xCon G Y_X3_silent [.ref m, .int what] T R L I1 (T, fun o2 R3 L3 I3 => ∃ r, o2 = some (.int r) ∧ (r = qSilent mo (mS I (x + 9)) (I (x + 24)) (I (x + 25)) seen what ∧ JI G T x m (E + 1) R3 L3 I3)) := by
  have h2 := h.qs hm hS
  obtain ⟨e1, e2, e3, e4⟩ := h2.2.2.2.2.1
  have q := JQ hm hX hM h2 (K_silent hM h2.1.2.1 h2.1.2.2.1 h2.1.2.2.2.1 h2.1.2.2.2.2.2 h2.1.2.2.2.2.1 h2.1.1 e2 e3 (fun k hk => (e4 k hk).2.2) (what := what))
  have ev : qSilent mo (mS I1 (x + 9)) (I1 (m + 9)) (I1 (m + 10)) seen what = qSilent mo (mS I (x + 9)) (I (x + 24)) (I (x + 25)) seen what := by
    rw [hS.now]
    refine qSil_cg (fun j hj => ?_)
    rw [← (e4 j hj).1, ← (e4 j hj).2.1, hS (x + 24) (by unfold scr; omega), hS (x + 25) (by unfold scr; omega)]
    exact ⟨rfl, rfl⟩
  rwa [ev] at q
theorem J2_month {x m E mo na len seen : Nat} {p : Nat → Nat} {I1 : xI} {L1 : xL} {v t : Int32} (hm : m = x + 122) (hX : XS G T R x) (hM : XM G T R m) (h : JD x m E mo na len seen p R L I) (hE : E < 10000) (hS : Scr x I I1) (hL : L1 = xsl L x 13 (uMonth mo (mS I (x + 9)) (L x 13) v t).2) :
    xCon G Y_X3_month [.ref m, .int v, .int t] T R L1 I1 (T, fun o2 R3 L3 I3 => ∃ r, o2 = some (.int r) ∧ (r = (uMonth mo (mS I (x + 9)) (L x 13) v t).1 ∧ JI G T x m (E + 1) R3 L3 I3)) := by
  have h2 := h.qs hm hS
  have e14 : L1 m 14 = L x 13 := by rw [hL, h.2.2.2.2.2]; unfold xsl; rw [va_up_n (by omega)]
  have q := K_month (L := L1) hM h2.1.2.1 h2.1.2.2.1 h2.1.2.2.2.1 h2.1.2.2.2.2.2 h2.1.2.2.2.2.1 h2.1.1 hE (vm := v) (t := t)
  rw [e14, hS.now] at q
  refine xCon.wk q (fun o2 R3 L3 I3 z => ?_)
  obtain ⟨r, z1, z2, rfl, rfl, Q, rfl⟩ := z
  refine ⟨r, z1, z2, JD.ji ((h2.tri hm).seedL ?_) hm hX hM⟩
  rw [xsl_s, va_up_s, hL]
  unfold xsl
  rw [va_up_n (by omega), va_up_s, va_up_s]
theorem J2_seed {x m E mo na len seen : Nat} {p : Nat → Nat} {v : Int64} (hm : m = x + 122) (hX : XS G T R x) (hM : XM G T R m) (h : JD x m E mo na len seen p R L I) :
    xCon G Y_X3_seed [.ref m, .long v] T R (xsl L x 13 v) I (T, fun o2 R3 L3 I3 => ∃ r, o2 = some (.long r) ∧ (r = L x 13 ∧ JI G T x m (E + 1) R3 L3 I3)) := by
  have e14 : xsl L x 13 v m 14 = L x 13 := by rw [h.2.2.2.2.2]; unfold xsl; rw [va_up_n (by omega)]
  refine xCon.wk (K_seed hM h.1.1 (L := xsl L x 13 v) (v := v)) (fun o2 R3 L3 I3 z => ?_)
  obtain ⟨rfl, rfl, rfl, rfl⟩ := z
  refine ⟨_, rfl, e14, (h.seedL ?_).ji hm hX hM⟩
  rw [xsl_s, va_up_s]
  unfold xsl
  rw [va_up_n (by omega), va_up_s, va_up_s]
theorem J2_wipe {x m E mo na len seen : Nat} {p : Nat → Nat} (hm : m = x + 122) (hX : XS G T R x) (hM : XM G T R m) (h : JD x m E mo na len seen p R L I) :
    xCon G Y_X3_wipe [.ref m] T R L (xst I x 1 (nI 0)) (T, fun o2 R3 L3 I3 => ∃ r, o2 = some (.int r) ∧ (r = I x 1 ∧ JI G T x m (E + 1) R3 L3 I3)) := by
  have em : xst I x 1 (nI 0) m = I m := xst_o (by omega)
  refine xCon.wk (K_wipe (I := xst I x 1 (nI 0)) hM (by rw [em]; exact h.1.1)) (fun o2 R3 L3 I3 z => ?_)
  obtain ⟨rfl, rfl, rfl, rfl⟩ := z
  exact ⟨_, rfl, by rw [em, h.2.1.2.1, h.2.1.1], (h.wipe hm).ji hm hX hM⟩
theorem J2_unsee {x m E mo na len seen : Nat} {p : Nat → Nat} (hm : m = x + 122) (hX : XS G T R x) (hM : XM G T R m) (h : JD x m E mo na len seen p R L I) :
    xCon G Y_X3_unsee [.ref m] T R L (xst I x 12 (nI 0)) (T, fun o2 R3 L3 I3 => ∃ r, o2 = some (.int r) ∧ (r = I x 12 ∧ JI G T x m (E + 1) R3 L3 I3)) := by
  have em : xst I x 12 (nI 0) m = I m := xst_o (by omega)
  refine xCon.wk (K_unsee (I := xst I x 12 (nI 0)) hM (by rw [em]; exact h.1.1)) (fun o2 R3 L3 I3 z => ?_)
  obtain ⟨rfl, rfl, rfl, rfl⟩ := z
  exact ⟨_, rfl, by rw [em, h.2.2.2.2.1.2.1, h.2.2.2.2.1.1], (h.unsee hm).ji hm hX hM⟩
theorem J2_see {x m E mo na len seen : Nat} {p : Nat → Nat} {c d : Int32} (hm : m = x + 122) (hX : XS G T R x) (hM : XM G T R m) (h : JD x m E mo na len seen p R L I) :
    xCon G Y_X3_see [.ref m, .int c, .int d] T R L (if bSee seen c d = true then iSee I x seen c d else I) (T, fun o2 R3 L3 I3 => ∃ r, o2 = some (.int r) ∧ (r = qSee seen c d ∧ JI G T x m (E + 1) R3 L3 I3)) := by
  obtain ⟨e1, e2, e3, e4⟩ := h.2.2.2.2.1
  by_cases b : bSee seen c d = true
  · rw [if_pos b]
    have em : iSee I x seen c d m = I m := by unfold iSee; rw [xst_o (by omega), xst_o (by omega), xst_o (by omega)]
    refine xCon.wk (K_see (I := iSee I x seen c d) hM (by rw [em]; exact h.1.1) (n := seen) (by rw [em]; exact e2) e3 (c := c) (d := d)) (fun o2 R3 L3 I3 z => ?_)
    obtain ⟨rfl, rfl, rfl, rfl⟩ := z
    rw [if_pos b]
    exact ⟨_, rfl, rfl, (h.see hm b).ji hm hX hM⟩
  · rw [if_neg b]
    refine xCon.wk (K_see (I := I) hM h.1.1 (n := seen) e2 e3 (c := c) (d := d)) (fun o2 R3 L3 I3 z => ?_)
    obtain ⟨rfl, rfl, rfl, rfl⟩ := z
    rw [if_neg b]
    exact ⟨_, rfl, rfl, h.ji hm hX hM⟩
-- ===== write =====
def WrP (x len : Nat) (n : Int32) (v : Int64) (I : xI) (r : Int32) (I2 : xI) : Prop :=
  (∃ q, n = nI q ∧ 1 ≤ q ∧ q ≤ 8 ∧ len + q ≤ 72 ∧ r = nI (len + q) ∧ I2 = iW I x len q v q) ∨ (∃ q, n = nI q ∧ 1 ≤ q ∧ q ≤ 8 ∧ 72 < len + q ∧ r = -4 ∧ I2 = I) ∨ ((n < nI 1 ∨ ¬ n ≤ nI 8) ∧ r = -2 ∧ I2 = I)
theorem J1_write {x len : Nat} (hX : XS G T R x) (hl : I x 1 = nI len) (hl2 : len ≤ 72) {n : Int32} {v : Int64} : xCon G Y_X2_write [.ref x, .int n, .long v] T R L I (T, fun o2 R2 L2 I2 => ∃ r, o2 = some (.int r) ∧ (R2 = R ∧ L2 = L ∧ WrP x len n v I r I2)) := by
  by_cases hb : n < nI 1 ∨ ¬ n ≤ nI 8
  · refine xCon.wk (C_X2_writeBad hX hb) (fun o2 R2 L2 I2 z => ?_)
    obtain ⟨rfl, rfl, rfl, rfl⟩ := z
    exact ⟨_, rfl, rfl, rfl, Or.inr (Or.inr ⟨hb, rfl, rfl⟩)⟩
  · have h1 : ¬ n < nI 1 := fun z => hb (Or.inl z)
    have h8 : n ≤ nI 8 := Classical.not_not.mp (fun z => hb (Or.inr z))
    obtain ⟨q, q1, q8, rfl⟩ := bL_j (a := 1) (b := 8) (by decide) (by decide) (by rw [decide_eq_true (Int32.not_lt.mp h1), decide_eq_true h8]; rfl)
    by_cases hf : len + q ≤ 72
    · refine xCon.wk (C_X2_writeOk hX hl q1 q8 hf) (fun o2 R2 L2 I2 z => ?_)
      obtain ⟨rfl, rfl, rfl, rfl⟩ := z
      exact ⟨_, rfl, rfl, rfl, Or.inl ⟨q, rfl, q1, q8, hf, rfl, rfl⟩⟩
    · refine xCon.wk (C_X2_writeFull hX hl hl2 q1 q8 (by omega)) (fun o2 R2 L2 I2 z => ?_)
      obtain ⟨rfl, rfl, rfl, rfl⟩ := z
      exact ⟨_, rfl, rfl, rfl, Or.inr (Or.inl ⟨q, rfl, q1, q8, by omega, rfl, rfl⟩)⟩
theorem J2_write {x m E mo na len seen : Nat} {p : Nat → Nat} {n r1 : Int32} {v : Int64} {I1 : xI} (hm : m = x + 122) (hX : XS G T R x) (hM : XM G T R m) (h : JD x m E mo na len seen p R L I) (g1 : WrP x len n v I r1 I1) :
    xCon G Y_X3_write [.ref m, .int n, .long v] T R L I1 (T, fun o2 R3 L3 I3 => ∃ r, o2 = some (.int r) ∧ (r = r1 ∧ JI G T x m (E + 1) R3 L3 I3)) := by
  obtain ⟨b1, b2, b3, b4⟩ := h.2.1
  rcases g1 with ⟨q, rfl, q1, q8, hf, rfl, rfl⟩ | ⟨q, rfl, q1, q8, hf, rfl, rfl⟩ | ⟨hb, rfl, rfl⟩
  · have em : iW I x len q v q m = I m := by unfold iW; rw [va_up_n (by omega), va_up_n (by omega)]
    refine xCon.wk (K_writeOk (I := iW I x len q v q) hM (by rw [em]; exact h.1.1) (by rw [em]; exact b2) q1 q8 hf) (fun o2 R3 L3 I3 z => ?_)
    obtain ⟨rfl, rfl, rfl, rfl⟩ := z
    exact ⟨_, rfl, rfl, (h.write hm hf).ji hm hX hM⟩
  · refine xCon.wk (K_writeFull hM h.1.1 b2 q1 q8 b3 hf) (fun o2 R3 L3 I3 z => ?_)
    obtain ⟨rfl, rfl, rfl, rfl⟩ := z
    exact ⟨_, rfl, rfl, h.ji hm hX hM⟩
  · refine xCon.wk (K_writeBad hM h.1.1 hb) (fun o2 R3 L3 I3 z => ?_)
    obtain ⟨rfl, rfl, rfl, rfl⟩ := z
    exact ⟨_, rfl, rfl, h.ji hm hX hM⟩
-- ===== undo, keep, again =====
def UnP (x na : Nat) (p : Nat → Nat) (I : xI) (r : Int32) (I2 : xI) : Prop := (na = 0 ∧ r = -3 ∧ I2 = I) ∨ (1 ≤ na ∧ r = nI (na - 1) ∧ I2 = pm (xst I x 7 (nI (na - 1))) (x + 9) (mS I (x + 26 + 6 * p (na - 1))))
theorem J1_undo {x na : Nat} {p : Nat → Nat} (hX : XS G T R x) (ha : I x 7 = nI na) (hna : na ≤ 14) (hp : PastR R x p) : xCon G Y_X2_undo [.ref x] T R L I (T, fun o2 R2 L2 I2 => ∃ r, o2 = some (.int r) ∧ (R2 = R ∧ L2 = L ∧ UnP x na p I r I2)) := by
  by_cases c : na = 0
  · subst c
    refine xCon.wk (C_X2_undoBad hX ha) (fun o2 R2 L2 I2 z => ?_)
    obtain ⟨rfl, rfl, rfl, rfl⟩ := z
    exact ⟨_, rfl, rfl, rfl, Or.inl ⟨rfl, rfl, rfl⟩⟩
  · refine xCon.wk (C_X2_undoOk hX ha (by omega) hna hp) (fun o2 R2 L2 I2 z => ?_)
    obtain ⟨rfl, rfl, rfl, rfl⟩ := z
    exact ⟨_, rfl, rfl, rfl, Or.inr ⟨by omega, rfl, rfl⟩⟩
theorem J2_undo {x m E mo na len seen : Nat} {p : Nat → Nat} {r1 : Int32} {I1 : xI} (hm : m = x + 122) (hX : XS G T R x) (hM : XM G T R m) (h : JD x m E mo na len seen p R L I) (g1 : UnP x na p I r1 I1) :
    xCon G Y_X3_undo [.ref m] T R L I1 (T, fun o2 R3 L3 I3 => ∃ r, o2 = some (.int r) ∧ (r = r1 ∧ JI G T x m (E + 1) R3 L3 I3)) := by
  obtain ⟨c1, c2, c3, c4, c5⟩ := h.2.2.1
  rcases g1 with ⟨rfl, rfl, rfl⟩ | ⟨h1, rfl, hI⟩
  · refine xCon.wk (K_undoBad hM h.1.1 c2) (fun o2 R3 L3 I3 z => ?_)
    obtain ⟨rfl, rfl, rfl, rfl⟩ := z
    exact ⟨_, rfl, rfl, h.ji hm hX hM⟩
  · have em : I1 m = I m := by rw [hI, pm_o (by omega), xst_o (by omega)]
    refine xCon.wk (K_undoOk (I := I1) hM (by rw [em]; exact h.1.1) (na := na) (by rw [em]; exact c2) h1 c3) (fun o2 R3 L3 I3 z => ?_)
    obtain ⟨rfl, rfl, rfl, rfl⟩ := z
    exact ⟨_, rfl, rfl, (h.undo hm h1 hI rfl).ji hm hX hM⟩
def KeP (x : Nat) (n : Int32) (I : xI) (r : Int32) (I2 : xI) : Prop := (∃ s, s < 2 ∧ n = nI s ∧ r = I (x + 9) 11 ∧ I2 = xst (pm I (x + 110 + 6 * s) (mS I (x + 9))) x 9 (I x 9 ||| (nI 1 <<< (nI s &&& 31)))) ∨ ((n < 0 ∨ ¬ n < nI 2) ∧ r = -1 ∧ I2 = I)
theorem sl_j {n : Int32} (h : ¬ (n < 0 ∨ ¬ n < nI 2)) : ∃ s, s < 2 ∧ n = nI s := by
  have h1 : ¬ n < 0 := fun z => h (Or.inl z)
  have h2 : n < nI 2 := Classical.not_not.mp (fun z => h (Or.inr z))
  exact vp_in_of (bIn_vp (by decide) (Int32.not_lt.mp h1) h2) (by decide)
theorem J1_keep {x : Nat} (hX : XS G T R x) {n : Int32} : xCon G Y_X2_keep [.ref x, .int n] T R L I (T, fun o2 R2 L2 I2 => ∃ r, o2 = some (.int r) ∧ (R2 = R ∧ L2 = L ∧ KeP x n I r I2)) := by
  by_cases c : n < 0 ∨ ¬ n < nI 2
  · refine xCon.wk (C_X2_keepBad hX c) (fun o2 R2 L2 I2 z => ?_)
    obtain ⟨rfl, rfl, rfl, rfl⟩ := z
    exact ⟨_, rfl, rfl, rfl, Or.inr ⟨c, rfl, rfl⟩⟩
  · obtain ⟨s, hs2, rfl⟩ := sl_j c
    refine xCon.wk (C_X2_keepOk hX hs2) (fun o2 R2 L2 I2 z => ?_)
    obtain ⟨rfl, rfl, rfl, rfl⟩ := z
    exact ⟨_, rfl, rfl, rfl, Or.inl ⟨s, hs2, rfl, rfl, rfl⟩⟩
theorem J2_keep {x m E mo na len seen : Nat} {p : Nat → Nat} {n r1 : Int32} {I1 : xI} (hm : m = x + 122) (hX : XS G T R x) (hM : XM G T R m) (h : JD x m E mo na len seen p R L I) (g1 : KeP x n I r1 I1) :
    xCon G Y_X3_keep [.ref m, .int n] T R L I1 (T, fun o2 R3 L3 I3 => ∃ r, o2 = some (.int r) ∧ (r = r1 ∧ JI G T x m (E + 1) R3 L3 I3)) := by
  rcases g1 with ⟨s, hs2, rfl, rfl, hI⟩ | ⟨c, rfl, rfl⟩
  · have hi : ∀ a, m ≤ a → I1 a = I a := fun a ha => by rw [hI, xst_o (by omega), pm_o (by omega)]
    refine xCon.wk (K_keepOk (I := I1) hM (by rw [hi m (by omega)]; exact h.1.1) hs2) (fun o2 R3 L3 I3 z => ?_)
    obtain ⟨rfl, rfl, rfl, rfl⟩ := z
    refine ⟨_, rfl, ?_, (h.keep hm hs2 hI rfl).ji hm hX hM⟩
    rw [hi (m + 3) (by omega)]
    exact h.1.2.2.2.2.1.2.2.2.2.2.2.2.2
  · refine xCon.wk (K_keepBad hM h.1.1 c) (fun o2 R3 L3 I3 z => ?_)
    obtain ⟨rfl, rfl, rfl, rfl⟩ := z
    exact ⟨_, rfl, rfl, h.ji hm hX hM⟩
def AgP (x : Nat) (n : Int32) (I : xI) (r : Int32) (I2 : xI) : Prop := (∃ s, s < 2 ∧ n = nI s ∧ hs (I x 9) (nI s) = true ∧ r = I (x + 110 + 6 * s) 11 ∧ I2 = xst (pm I (x + 9) (mS I (x + 110 + 6 * s))) x 7 (nI 0)) ∨ (∃ s, s < 2 ∧ n = nI s ∧ hs (I x 9) (nI s) = false ∧ r = -3 ∧ I2 = I) ∨ ((n < 0 ∨ ¬ n < nI 2) ∧ r = -1 ∧ I2 = I)
theorem J1_again {x : Nat} (hX : XS G T R x) {n : Int32} : xCon G Y_X2_again [.ref x, .int n] T R L I (T, fun o2 R2 L2 I2 => ∃ r, o2 = some (.int r) ∧ (R2 = R ∧ L2 = L ∧ AgP x n I r I2)) := by
  by_cases c : n < 0 ∨ ¬ n < nI 2
  · refine xCon.wk (C_X2_againBad hX c) (fun o2 R2 L2 I2 z => ?_)
    obtain ⟨rfl, rfl, rfl, rfl⟩ := z
    exact ⟨_, rfl, rfl, rfl, Or.inr (Or.inr ⟨c, rfl, rfl⟩)⟩
  · obtain ⟨s, hs2, rfl⟩ := sl_j c
    cases hk : hs (I x 9) (nI s)
    · refine xCon.wk (C_X2_againLate hX hs2 hk) (fun o2 R2 L2 I2 z => ?_)
      obtain ⟨rfl, rfl, rfl, rfl⟩ := z
      exact ⟨_, rfl, rfl, rfl, Or.inr (Or.inl ⟨s, hs2, rfl, hk, rfl, rfl⟩)⟩
    · refine xCon.wk (C_X2_againOk hX hs2 hk) (fun o2 R2 L2 I2 z => ?_)
      obtain ⟨rfl, rfl, rfl, rfl⟩ := z
      exact ⟨_, rfl, rfl, rfl, Or.inl ⟨s, hs2, rfl, hk, rfl, rfl⟩⟩
theorem J2_again {x m E mo na len seen : Nat} {p : Nat → Nat} {n r1 : Int32} {I1 : xI} (hm : m = x + 122) (hX : XS G T R x) (hM : XM G T R m) (h : JD x m E mo na len seen p R L I) (g1 : AgP x n I r1 I1) :
    xCon G Y_X3_again [.ref m, .int n] T R L I1 (T, fun o2 R3 L3 I3 => ∃ r, o2 = some (.int r) ∧ (r = r1 ∧ JI G T x m (E + 1) R3 L3 I3)) := by
  rcases g1 with ⟨s, hs2, rfl, hk, rfl, hI⟩ | ⟨s, hs2, rfl, hk, rfl, rfl⟩ | ⟨c, rfl, rfl⟩
  · have hi : ∀ a, m ≤ a → I1 a = I a := fun a ha => by rw [hI, xst_o (by omega), pm_o (by omega)]
    obtain ⟨d1, d2⟩ := h.2.2.2.1 s hs2
    refine xCon.wk (K_againOk (I := I1) hM (by rw [hi m (by omega)]; exact h.1.1) hs2 (by rw [hi (m + 8) (by omega), d1, hk])) (fun o2 R3 L3 I3 z => ?_)
    obtain ⟨rfl, rfl, rfl, rfl⟩ := z
    refine ⟨_, rfl, ?_, (h.again hm hs2 hk hI rfl).ji hm hX hM⟩
    rw [hi (m + 7) (by omega)]
    exact (d2 hk).2.2.1.2.2.2.2.2.2.2.2
  · refine xCon.wk (K_againLate hM h.1.1 hs2 (by rw [(h.2.2.2.1 s hs2).1, hk])) (fun o2 R3 L3 I3 z => ?_)
    obtain ⟨rfl, rfl, rfl, rfl⟩ := z
    exact ⟨_, rfl, rfl, h.ji hm hX hM⟩
  · refine xCon.wk (K_againBad hM h.1.1 c) (fun o2 R3 L3 I3 z => ?_)
    obtain ⟨rfl, rfl, rfl, rfl⟩ := z
    exact ⟨_, rfl, rfl, h.ji hm hX hM⟩
-- ===== what reads alone =====
theorem J2_about {x m E mo na len seen : Nat} {p : Nat → Nat} {what : Int32} (hm : m = x + 122) (hX : XS G T R x) (hM : XM G T R m) (h : JD x m E mo na len seen p R L I) :
    xCon G Y_X3_about [.ref m, .int what] T R L I (T, fun o2 R3 L3 I3 => ∃ r, o2 = some (.int r) ∧ (r = qAbout (mS I (x + 9)) (I x 7) (I x 12) (I x 1) what ∧ JI G T x m (E + 1) R3 L3 I3)) := by
  refine xCon.wk (K_about hM h.1.2.1 h.1.2.2.1 h.1.2.2.2.1 h.1.2.2.2.2.2 h.1.2.2.2.2.1 h.1.1 (what := what)) (fun o2 R3 L3 I3 z => ?_)
  obtain ⟨rfl, rfl, rfl, rfl⟩ := z
  exact ⟨_, rfl, by rw [h.2.2.1.1, h.2.2.1.2.1, h.2.2.2.2.1.1, h.2.2.2.2.1.2.1, h.2.1.1, h.2.1.2.1], h.ji hm hX hM⟩
theorem J2_cell {x m E mo na len seen : Nat} {p : Nat → Nat} {c what : Int32} (hm : m = x + 122) (hX : XS G T R x) (hM : XM G T R m) (h : JD x m E mo na len seen p R L I) :
    xCon G Y_X3_cell [.ref m, .int c, .int what] T R L I (T, fun o2 R3 L3 I3 => ∃ r, o2 = some (.int r) ∧ (r = qCell mo (mS I (x + 9)) c what ∧ JI G T x m (E + 1) R3 L3 I3)) := by
  refine xCon.wk (K_cell hM h.1.2.1 h.1.2.2.1 h.1.2.2.2.1 h.1.2.2.2.2.2 h.1.2.2.2.2.1 h.1.1 (c := c) (what := what)) (fun o2 R3 L3 I3 z => ?_)
  obtain ⟨rfl, rfl, rfl, rfl⟩ := z
  exact ⟨_, rfl, rfl, h.ji hm hX hM⟩
theorem J2_monk {x m E mo na len seen : Nat} {p : Nat → Nat} {v what : Int32} (hm : m = x + 122) (hX : XS G T R x) (hM : XM G T R m) (h : JD x m E mo na len seen p R L I) :
    xCon G Y_X3_monk [.ref m, .int v, .int what] T R L I (T, fun o2 R3 L3 I3 => ∃ r, o2 = some (.int r) ∧ (r = qMonk mo (mS I (x + 9)) v what ∧ JI G T x m (E + 1) R3 L3 I3)) := by
  refine xCon.wk (K_monk hM h.1.2.1 h.1.2.2.1 h.1.2.2.2.1 h.1.2.2.2.2.2 h.1.2.2.2.2.1 h.1.1 (v := v) (what := what)) (fun o2 R3 L3 I3 z => ?_)
  obtain ⟨rfl, rfl, rfl, rfl⟩ := z
  exact ⟨_, rfl, rfl, h.ji hm hX hM⟩
/-- a question of the Model, over the cells that the class's question left -/
theorem JQs {x m E mo na len seen : Nat} {p : Nat → Nat} {I1 : xI} {Y' : xY} {av : List Value} {V : xS → Int32} (hm : m = x + 122) (hX : XS G T R x) (hM : XM G T R m) (h : JD x m E mo na len seen p R L I) (hS : Scr x I I1)
    (hc : JD x m E mo na len seen p R L I1 → xCon G Y' av T R L I1 (T, fun o2 R3 L3 I3 => ∃ r, o2 = some (.int r) ∧ (r = V (mS I1 (x + 9)) ∧ R3 = R ∧ L3 = L ∧ ∃ Q, I3 = va_up I1 (m + 11) Q))) : xCon G Y' av T R L I1 (T, fun o2 R3 L3 I3 => ∃ r, o2 = some (.int r) ∧ (r = V (mS I (x + 9)) ∧ JI G T x m (E + 1) R3 L3 I3)) := by
  have h2 := h.qs hm hS
  have q := JQ hm hX hM h2 (hc h2)
  rwa [hS.now] at q
theorem JQsb {x m E mo na len seen : Nat} {p : Nat → Nat} {I1 : xI} {Y' : xY} {av : List Value} {V : xS → Int32} (hm : m = x + 122) (hX : XS G T R x) (hM : XM G T R m) (h : JD x m E mo na len seen p R L I) (hS : Scr x I I1)
    (hc : JD x m E mo na len seen p R L I1 → xCon G Y' av T R L I1 (T, fun o2 R3 L3 I3 => ∃ r, o2 = some (.int r) ∧ (r = V (mS I1 (x + 9)) ∧ R3 = R ∧ L3 = L ∧ ∃ Q b, I3 = va_up (xst I1 m 23 b) (m + 11) Q))) : xCon G Y' av T R L I1 (T, fun o2 R3 L3 I3 => ∃ r, o2 = some (.int r) ∧ (r = V (mS I (x + 9)) ∧ JI G T x m (E + 1) R3 L3 I3)) := by
  have h2 := h.qs hm hS
  have q := JQb hm hX hM h2 (hc h2)
  rwa [hS.now] at q
theorem J2_falls {x m E mo na len seen : Nat} {p : Nat → Nat} {I1 : xI} {v : Int32} (hm : m = x + 122) (hX : XS G T R x) (hM : XM G T R m) (h : JD x m E mo na len seen p R L I) (hE : E < 10000) (hS : Scr x I I1) :
    xCon G Y_X3_falls [.ref m, .int v] T R L I1 (T, fun o2 R3 L3 I3 => ∃ r, o2 = some (.int r) ∧ (r = qFalls mo (mS I (x + 9)) v ∧ JI G T x m (E + 1) R3 L3 I3)) :=
  JQs (V := fun S => qFalls mo S v) hm hX hM h hS (fun q => K_falls hM q.1.2.1 q.1.2.2.1 q.1.2.2.2.1 q.1.2.2.2.2.2 q.1.2.2.2.2.1 q.1.1 (v := v))
theorem J2_psalm {x m E mo na len seen : Nat} {p : Nat → Nat} {I1 : xI} {n ro : Int32} (hm : m = x + 122) (hX : XS G T R x) (hM : XM G T R m) (h : JD x m E mo na len seen p R L I) (hE : E < 10000) (hS : Scr x I I1) :
    xCon G Y_X3_psalm [.ref m, .int n, .int ro] T R L I1 (T, fun o2 R3 L3 I3 => ∃ r, o2 = some (.int r) ∧ (r = uPsalm mo (mS I (x + 9)) n ro ∧ JI G T x m (E + 1) R3 L3 I3)) :=
  JQs (V := fun S => uPsalm mo S n ro) hm hX hM h hS (fun q => K_psalm hM q.1.2.1 q.1.2.2.1 q.1.2.2.2.1 q.1.2.2.2.2.2 q.1.2.2.2.2.1 q.1.1 (n := n) (ro := ro))
theorem J2_best {x m E mo na len seen : Nat} {p : Nat → Nat} {I1 : xI} {n : Int32} (hm : m = x + 122) (hX : XS G T R x) (hM : XM G T R m) (h : JD x m E mo na len seen p R L I) (hE : E < 10000) (hS : Scr x I I1) :
    xCon G Y_X3_best [.ref m, .int n] T R L I1 (T, fun o2 R3 L3 I3 => ∃ r, o2 = some (.int r) ∧ (r = uBest mo (mS I (x + 9)) n ∧ JI G T x m (E + 1) R3 L3 I3)) :=
  JQsb (V := fun S => uBest mo S n) hm hX hM h hS (fun q => K_best hM q.1.2.1 q.1.2.2.1 q.1.2.2.2.1 q.1.2.2.2.2.2 q.1.2.2.2.2.1 q.1.1 (n := n))
theorem J2_bestAt {x m E mo na len seen : Nat} {p : Nat → Nat} {I1 : xI} {n i : Int32} (hm : m = x + 122) (hX : XS G T R x) (hM : XM G T R m) (h : JD x m E mo na len seen p R L I) (hE : E < 10000) (hS : Scr x I I1) :
    xCon G Y_X3_bestAt [.ref m, .int n, .int i] T R L I1 (T, fun o2 R3 L3 I3 => ∃ r, o2 = some (.int r) ∧ (r = uBestAt mo (mS I (x + 9)) n i ∧ JI G T x m (E + 1) R3 L3 I3)) :=
  JQsb (V := fun S => uBestAt mo S n i) hm hX hM h hS (fun q => K_bestAt hM q.1.2.1 q.1.2.2.1 q.1.2.2.2.1 q.1.2.2.2.2.2 q.1.2.2.2.2.1 q.1.1 (n := n) (i := i))
theorem J2_oaths {x m E mo na len seen : Nat} {p : Nat → Nat} {I1 : xI}  (hm : m = x + 122) (hX : XS G T R x) (hM : XM G T R m) (h : JD x m E mo na len seen p R L I) (hE : E < 10000) (hS : Scr x I I1) :
    xCon G Y_X3_oaths [.ref m] T R L I1 (T, fun o2 R3 L3 I3 => ∃ r, o2 = some (.int r) ∧ (r = qOaths mo (mS I (x + 9)) ∧ JI G T x m (E + 1) R3 L3 I3)) :=
  JQs (V := fun S => qOaths mo S) hm hX hM h hS (fun q => K_oaths hM q.1.2.1 q.1.2.2.1 q.1.2.2.2.1 q.1.2.2.2.2.2 q.1.2.2.2.2.1 q.1.1 )
theorem J2_down {x m E mo na len seen : Nat} {p : Nat → Nat} {I1 : xI} {c : Int32} (hm : m = x + 122) (hX : XS G T R x) (hM : XM G T R m) (h : JD x m E mo na len seen p R L I) (hE : E < 10000) (hS : Scr x I I1) :
    xCon G Y_X3_down [.ref m, .int c] T R L I1 (T, fun o2 R3 L3 I3 => ∃ r, o2 = some (.int r) ∧ (r = qDown mo (mS I (x + 9)) c ∧ JI G T x m (E + 1) R3 L3 I3)) :=
  JQs (V := fun S => qDown mo S c) hm hX hM h hS (fun q => K_down hM q.1.2.1 q.1.2.2.1 q.1.2.2.2.1 q.1.2.2.2.2.2 q.1.2.2.2.2.1 q.1.1 hE (c := c))
theorem J2_chance {x m E mo na len seen : Nat} {p : Nat → Nat} {I1 : xI} {c xx up : Int32} (hm : m = x + 122) (hX : XS G T R x) (hM : XM G T R m) (h : JD x m E mo na len seen p R L I) (hE : E < 10000) (hS : Scr x I I1) :
    xCon G Y_X3_chance [.ref m, .int c, .int xx, .int up] T R L I1 (T, fun o2 R3 L3 I3 => ∃ r, o2 = some (.int r) ∧ (r = qChance mo (mS I (x + 9)) c xx up ∧ JI G T x m (E + 1) R3 L3 I3)) :=
  JQs (V := fun S => qChance mo S c xx up) hm hX hM h hS (fun q => K_chance hM q.1.2.1 q.1.2.2.1 q.1.2.2.2.1 q.1.2.2.2.2.2 q.1.2.2.2.2.1 q.1.1 (c := c) (xx := xx) (up := up))
end XJD
