/-! BOTH SIDES AT ONCE: call by call -/
section XJB
variable {G : xG} {T : xT} {R : xR} {L : xL} {I : xI}
def JI (G : xG) (T : xT) (x m E : Nat) (R : xR) (L : xL) (I : xI) : Prop := m = x + 122 ∧ XS G T R x ∧ XM G T R m ∧ ∃ mo na len seen p, JD x m E mo na len seen p R L I
theorem XM.rr {m : Nat} {R2 : xR} (hM : XM G T R m) (e : R2 m = R m) : XM G T R2 m := by
  unfold XM at hM ⊢
  rw [e]
  exact hM
theorem JD.ji {x m E mo na len seen : Nat} {p : Nat → Nat} (h : JD x m E mo na len seen p R L I) (hm : m = x + 122) (hX : XS G T R x) (hM : XM G T R m) : JI G T x m (E + 1) R L I := ⟨hm, hX, hM, mo, na, len, seen, p, h.up (by omega)⟩
/-- a question: the Model's side -/
theorem JQ {x m E mo na len seen : Nat} {p : Nat → Nat} {Y' : xY} {av : List Value} {V : Int32} (hm : m = x + 122) (hX : XS G T R x) (hM : XM G T R m) (h : JD x m E mo na len seen p R L I)
    (hc : xCon G Y' av T R L I (T, fun o2 R3 L3 I3 => ∃ r, o2 = some (.int r) ∧ (r = V ∧ R3 = R ∧ L3 = L ∧ ∃ Q, I3 = va_up I (m + 11) Q))) : xCon G Y' av T R L I (T, fun o2 R3 L3 I3 => ∃ r, o2 = some (.int r) ∧ (r = V ∧ JI G T x m (E + 1) R3 L3 I3)) := by
  refine xCon.wk hc (fun v R3 L3 I3 z => ?_)
  obtain ⟨r, z1, z2, rfl, rfl, Q, rfl⟩ := z
  exact ⟨r, z1, z2, (h.tri hm).ji hm hX hM⟩
theorem JQb {x m E mo na len seen : Nat} {p : Nat → Nat} {Y' : xY} {av : List Value} {V : Int32} (hm : m = x + 122) (hX : XS G T R x) (hM : XM G T R m) (h : JD x m E mo na len seen p R L I)
    (hc : xCon G Y' av T R L I (T, fun o2 R3 L3 I3 => ∃ r, o2 = some (.int r) ∧ (r = V ∧ R3 = R ∧ L3 = L ∧ ∃ Q b, I3 = va_up (xst I m 23 b) (m + 11) Q))) : xCon G Y' av T R L I (T, fun o2 R3 L3 I3 => ∃ r, o2 = some (.int r) ∧ (r = V ∧ JI G T x m (E + 1) R3 L3 I3)) := by
  refine xCon.wk hc (fun v R3 L3 I3 z => ?_)
  obtain ⟨r, z1, z2, rfl, rfl, Q, b, rfl⟩ := z
  exact ⟨r, z1, z2, (h.trb hm).ji hm hX hM⟩
-- ===== the class's questions with one answer =====
theorem J1_psalm {x mo : Nat} (hX : XS G T R x) (hk : MOK mo (mS I (x + 9))) {n ro : Int32} : xCon G Y_X2_psalm [.ref x, .int n, .int ro] T R L I (T, fun v R2 L2 I2 => ∃ r, v = some (.int r) ∧ (r = uPsalm mo (mS I (x + 9)) n ro ∧ R2 = R ∧ L2 = L ∧ Scr x I I2)) := by
  cases h1 : (decide (nI 1 ≤ n) && decide (n ≤ nI 8))
  · refine xCon.wk (C_X2_psalmBad hX (n := n) (ro := ro) ?_) (fun v R2 L2 I2 z => ?_)
    · by_cases c : n < nI 1
      · exact Or.inl c
      · refine Or.inr (Or.inl (Int32.not_le.mp (fun y => ?_)))
        rw [decide_eq_true (Int32.not_lt.mp c), decide_eq_true y] at h1
        cases h1
    · obtain ⟨rfl, rfl, rfl, rfl⟩ := z
      exact ⟨_, rfl, (uPsalm_n h1).symm, rfl, rfl, Scr.rf⟩
  · obtain ⟨j, j1, j8, rfl⟩ := bL_j (by decide) (by decide) h1
    by_cases c : ro < 0
    · refine xCon.wk (C_X2_psalmBad hX (Or.inr (Or.inr c))) (fun v R2 L2 I2 z => ?_)
      obtain ⟨rfl, rfl, rfl, rfl⟩ := z
      exact ⟨_, rfl, by unfold uPsalm; rw [if_neg (fun y => absurd y.2 (Int32.not_le.mpr c))], rfl, rfl, Scr.rf⟩
    · obtain ⟨q, hq, rfl⟩ := nI_of c
      rw [uPsalm_y j1 j8 hq]
      exact C_X2_psalmOk hX hk j1 j8 hq
theorem J1_best {x mo : Nat} (hX : XS G T R x) (hk : MOK mo (mS I (x + 9))) {n : Int32} : xCon G Y_X2_best [.ref x, .int n] T R L I (T, fun v R2 L2 I2 => ∃ r, v = some (.int r) ∧ (r = uBest mo (mS I (x + 9)) n ∧ R2 = R ∧ L2 = L ∧ Scr x I I2)) := by
  cases h1 : (decide (nI 1 ≤ n) && decide (n ≤ nI 3))
  · refine xCon.wk (C_X2_bestBad hX (n := n) ?_) (fun v R2 L2 I2 z => ?_)
    · by_cases c : n < nI 1
      · exact Or.inl c
      · refine Or.inr (fun y => ?_)
        rw [decide_eq_true (Int32.not_lt.mp c), decide_eq_true y] at h1
        cases h1
    · obtain ⟨rfl, rfl, rfl, rfl⟩ := z
      exact ⟨_, rfl, (uBest_n h1).symm, rfl, rfl, Scr.rf⟩
  · obtain ⟨j, j1, j3, rfl⟩ := bL_j (by decide) (by decide) h1
    have e : uBest mo (mS I (x + 9)) (nI j) = qBest mo (mS I (x + 9)) j := by unfold uBest; rw [if_pos h1, nI_clamp (by omega)]
    rw [e]
    exact C_X2_bestOk hX hk j1 j3
theorem J1_bestAt {x mo : Nat} (hX : XS G T R x) (hk : MOK mo (mS I (x + 9))) {n i : Int32} : xCon G Y_X2_bestAt [.ref x, .int n, .int i] T R L I (T, fun v R2 L2 I2 => ∃ r, v = some (.int r) ∧ (r = uBestAt mo (mS I (x + 9)) n i ∧ R2 = R ∧ L2 = L ∧ Scr x I I2)) := by
  cases h1 : (decide (nI 1 ≤ n) && decide (n ≤ nI 3))
  · refine xCon.wk (C_X2_bestAtBad hX (n := n) (i := i) ?_) (fun v R2 L2 I2 z => ?_)
    · by_cases c : n < nI 1
      · exact Or.inl c
      · refine Or.inr (fun y => ?_)
        rw [decide_eq_true (Int32.not_lt.mp c), decide_eq_true y] at h1
        cases h1
    · obtain ⟨rfl, rfl, rfl, rfl⟩ := z
      exact ⟨_, rfl, (uBestAt_n h1).symm, rfl, rfl, Scr.rf⟩
  · obtain ⟨j, j1, j3, rfl⟩ := bL_j (by decide) (by decide) h1
    have e : uBestAt mo (mS I (x + 9)) (nI j) i = qBestAt mo (mS I (x + 9)) j i := by unfold uBestAt; rw [if_pos h1, nI_clamp (by omega)]
    rw [e]
    exact C_X2_bestAtOk hX hk j1 j3
theorem J1_month {x mo : Nat} (hX : XS G T R x) (hk : MOK mo (mS I (x + 9))) {v t : Int32} : xCon G Y_X2_month [.ref x, .int v, .int t] T R L I (T, fun o2 R2 L2 I2 => ∃ r, o2 = some (.int r) ∧ (r = (uMonth mo (mS I (x + 9)) (L x 13) v t).1 ∧ R2 = R ∧ L2 = xsl L x 13 (uMonth mo (mS I (x + 9)) (L x 13) v t).2 ∧ Scr x I I2)) := by
  have bad : (v < nI 1 ∨ nI 30 < v ∨ t < 0 ∨ ¬ t ≤ nI 10) → uMonth mo (mS I (x + 9)) (L x 13) v t = (-2, L x 13) → xCon G Y_X2_month [.ref x, .int v, .int t] T R L I (T, fun o2 R2 L2 I2 => ∃ r, o2 = some (.int r) ∧ (r = (uMonth mo (mS I (x + 9)) (L x 13) v t).1 ∧ R2 = R ∧ L2 = xsl L x 13 (uMonth mo (mS I (x + 9)) (L x 13) v t).2 ∧ Scr x I I2)) := fun hb e => by
    refine xCon.wk (C_X2_monthBad hX hb) (fun o2 R2 L2 I2 z => ?_)
    obtain ⟨rfl, rfl, rfl, rfl⟩ := z
    rw [e]
    exact ⟨_, rfl, rfl, rfl, xsl_own.symm, Scr.rf⟩
  cases h1 : (decide (nI 1 ≤ v) && decide (v ≤ nI 30))
  · refine bad ?_ (uMonth_a h1)
    by_cases c : v < nI 1
    · exact Or.inl c
    · refine Or.inr (Or.inl (Int32.not_le.mp (fun y => ?_)))
      rw [decide_eq_true (Int32.not_lt.mp c), decide_eq_true y] at h1
      cases h1
  · cases h2 : (decide (nI 0 ≤ t) && decide (t ≤ nI 10))
    · refine bad ?_ (uMonth_b h2)
      by_cases c : t < 0
      · exact Or.inr (Or.inr (Or.inl c))
      · refine Or.inr (Or.inr (Or.inr (fun y => ?_)))
        rw [decide_eq_true (show nI 0 ≤ t by rw [nI_0]; exact Int32.not_lt.mp c), decide_eq_true y] at h2
        cases h2
    · obtain ⟨j, j1, j3, rfl⟩ := bL_j (by decide) (by decide) h1
      rw [uMonth_y h1 h2 j3]
      simp only [Bool.and_eq_true, decide_eq_true_eq] at h2
      exact C_X2_monthOk hX hk j1 j3 (Int32.not_lt.mpr (by rw [← nI_0]; exact h2.1)) h2.2
-- ===== what changes the text, what is seen, the seed =====
theorem JD.aux {x m E mo na len seen len' seen' : Nat} {p : Nat → Nat} {I2 : xI} {L2 : xL} (hm : m = x + 122) (h : JD x m E mo na len seen p R L I)
    (he : ∀ a, ((x + 9 ≤ a ∧ a < x + 15) ∨ (x + 26 ≤ a ∧ a < x + 122) ∨ a = m + 2 ∨ a = m + 3 ∨ (m + 6 ≤ a ∧ a ≤ m + 8)) → I2 a = I a) (x7 : I2 x 7 = I x 7) (x9 : I2 x 9 = I x 9) (m0 : I2 m 0 = I m 0) (m4 : I2 m 4 = I m 4) (m5 : I2 m 5 = I m 5) (m16 : I2 m 16 = I m 16)
    (ht : I2 x 1 = nI len' ∧ I2 m 2 = nI len' ∧ len' ≤ 72 ∧ ∀ j, j < len' → I2 (x + 1) j = I2 (m + 1) j ∧ ∃ q, q < 256 ∧ I2 (m + 1) j = nI q)
    (hs' : I2 x 12 = nI seen' ∧ I2 m 19 = nI seen' ∧ seen' ≤ 6 ∧ ∀ j, j < seen' → I2 (x + 24) j = I2 (m + 9) j ∧ I2 (x + 25) j = I2 (m + 10) j ∧ ∃ c, c < 12 ∧ I2 (m + 9) j = nI c) (hl : L2 x 13 = L2 m 14) : JD x m E mo na len' seen' p R L2 I2 := by
  subst hm
  obtain ⟨⟨a1, a2, a3⟩, b, ⟨c1, c2, c3, c4, c5⟩, d, e, f⟩ := h
  have n9 : mS I2 (x + 9) = mS I (x + 9) := mS_cg (fun j hj => he _ (by omega))
  refine ⟨⟨m0.trans a1, m5.trans a2, ?_⟩, ht, ⟨x7.trans c1, m16.trans c2, c3, c4, fun i hi => ?_⟩, fun s hs2 => ?_, hs', hl⟩
  · rw [he (x + 122 + 2) (by omega), he (x + 122 + 3) (by omega), n9, m4]; exact a3
  · have hp := (c4.1 i (by omega)).2
    rw [he (x + 122 + 2) (by omega), he (x + 122 + 6) (by omega), mS_cg (I2 := I2) (I := I) (h := x + 26 + 6 * p i) (fun j hj => he _ (by omega)), m4]; exact c5 i hi
  · rw [he (x + 122 + 8) (by omega), x9, he (x + 122 + 2) (by omega), he (x + 122 + 7) (by omega), mS_cg (I2 := I2) (I := I) (h := x + 110 + 6 * s) (fun j hj => he _ (by omega)), m4]; exact d s hs2
theorem JD.seedL {x m E mo na len seen : Nat} {p : Nat → Nat} {L2 : xL} (h : JD x m E mo na len seen p R L I) (hl : L2 x 13 = L2 m 14) : JD x m E mo na len seen p R L2 I := ⟨h.1, h.2.1, h.2.2.1, h.2.2.2.1, h.2.2.2.2.1, hl⟩
theorem JD.wipe {x m E mo na len seen : Nat} {p : Nat → Nat} (hm : m = x + 122) (h : JD x m E mo na len seen p R L I) : JD x m E mo na 0 seen p R L (xst (xst I x 1 (nI 0)) m 2 (nI 0)) := by
  have o : ∀ a, a ≠ x → a ≠ m → xst (xst I x 1 (nI 0)) m 2 (nI 0) a = I a := fun a h1 h2 => by rw [xst_o h2, xst_o h1]
  have ex : xst (xst I x 1 (nI 0)) m 2 (nI 0) x = upd (I x) 1 (nI 0) := by rw [xst_o (by omega), xst_s]
  have em : xst (xst I x 1 (nI 0)) m 2 (nI 0) m = upd (I m) 2 (nI 0) := by rw [xst_s, xst_o (by omega)]
  obtain ⟨e1, e2, e3, e4⟩ := h.2.2.2.2.1
  refine h.aux hm (fun a ha => o a (by omega) (by omega)) (by rw [ex, upd_n (by omega)]) (by rw [ex, upd_n (by omega)]) (by rw [em, upd_n (by omega)]) (by rw [em, upd_n (by omega)]) (by rw [em, upd_n (by omega)]) (by rw [em, upd_n (by omega)])
    ⟨by rw [ex, upd_s], by rw [em, upd_s], by omega, fun j hj => absurd hj (by omega)⟩ ⟨by rw [ex, upd_n (by omega)]; exact e1, by rw [em, upd_n (by omega)]; exact e2, e3, ?_⟩ h.2.2.2.2.2
  rw [o (x + 24) (by omega) (by omega), o (x + 25) (by omega) (by omega), o (m + 9) (by omega) (by omega), o (m + 10) (by omega) (by omega)]
  exact e4
theorem tW_at {t t' : Nat → Int32} {len n : Nat} {v : Int64} (h : ∀ j, j < len → t j = t' j ∧ ∃ q, q < 256 ∧ t' j = nI q) : ∀ i j, j < len + i → tW t len n v i j = tW t' len n v i j ∧ ∃ q, q < 256 ∧ tW t' len n v i j = nI q := by
  intro i
  induction i with
  | zero => intro j hj; exact h j hj
  | succ i ih =>
    intro j hj
    rw [tW, tW]
    by_cases e : j = len + i
    · subst e
      rw [upd_s, upd_s]
      refine ⟨rfl, ?_⟩
      obtain ⟨q, hq, eq⟩ := pk_andE (((v.toUInt64 >>> ((nI (8 * (n - 1 - i))).toInt64.toUInt64 &&& Int64.toUInt64 63)).toInt64).toInt32) (m := nI 255) 8 (by decide)
      exact ⟨q, hq, eq⟩
    · rw [upd_n e, upd_n e]
      exact ih j (by omega)
theorem JD.write {x m E mo na len seen n : Nat} {p : Nat → Nat} {v : Int64} (hm : m = x + 122) (h : JD x m E mo na len seen p R L I) (hb : len + n ≤ 72) : JD x m E mo na (len + n) seen p R L (iWm (iW I x len n v n) m len n v n) := by
  obtain ⟨b1, b2, b3, b4⟩ := h.2.1
  obtain ⟨e1, e2, e3, e4⟩ := h.2.2.2.2.1
  have w0 : ∀ a, a ≠ x → a ≠ x + 1 → iW I x len n v n a = I a := fun a h1 h2 => by unfold iW; rw [va_up_n h1, va_up_n h2]
  have o : ∀ a, a ≠ x → a ≠ x + 1 → a ≠ m → a ≠ m + 1 → iWm (iW I x len n v n) m len n v n a = I a := fun a h1 h2 h3 h4 => by unfold iWm; rw [va_up_n h4, xst_o h3, w0 a h1 h2]
  have ex : iWm (iW I x len n v n) m len n v n x = upd (I x) 1 (nI (len + n)) := by unfold iWm; rw [va_up_n (by omega), xst_o (by omega), iW_x]
  have ex1 : iWm (iW I x len n v n) m len n v n (x + 1) = tW (I (x + 1)) len n v n := by unfold iWm; rw [va_up_n (by omega), xst_o (by omega), iW_t]
  have em : iWm (iW I x len n v n) m len n v n m = upd (I m) 2 (nI (len + n)) := by unfold iWm; rw [va_up_n (by omega), xst_s, w0 m (by omega) (by omega)]
  have em1 : iWm (iW I x len n v n) m len n v n (m + 1) = tW (I (m + 1)) len n v n := by unfold iWm; rw [va_up_s, w0 (m + 1) (by omega) (by omega)]
  refine h.aux hm (fun a ha => o a (by omega) (by omega) (by omega) (by omega)) (by rw [ex, upd_n (by omega)]) (by rw [ex, upd_n (by omega)]) (by rw [em, upd_n (by omega)]) (by rw [em, upd_n (by omega)]) (by rw [em, upd_n (by omega)]) (by rw [em, upd_n (by omega)])
    ⟨by rw [ex, upd_s], by rw [em, upd_s], hb, fun j hj => ?_⟩ ⟨by rw [ex, upd_n (by omega)]; exact e1, by rw [em, upd_n (by omega)]; exact e2, e3, ?_⟩ h.2.2.2.2.2
  · rw [ex1, em1]; exact tW_at b4 n j hj
  · rw [o (x + 24) (by omega) (by omega) (by omega) (by omega), o (x + 25) (by omega) (by omega) (by omega) (by omega), o (m + 9) (by omega) (by omega) (by omega) (by omega), o (m + 10) (by omega) (by omega) (by omega) (by omega)]
    exact e4
theorem JD.see {x m E mo na len seen : Nat} {p : Nat → Nat} {c d : Int32} (hm : m = x + 122) (h : JD x m E mo na len seen p R L I) (hb : bSee seen c d = true) : JD x m E mo na len (seen + 1) p R L (iSeM (iSee I x seen c d) m seen c d) := by
  obtain ⟨b1, b2, b3, b4⟩ := h.2.1
  obtain ⟨e1, e2, e3, e4⟩ := h.2.2.2.2.1
  have hb2 := hb
  unfold bSee at hb2
  simp only [Bool.and_eq_true, decide_eq_true_eq] at hb2
  obtain ⟨cj, hcj, rfl⟩ := bC_j hb2.1
  have w0 : ∀ a, a ≠ x → a ≠ x + 24 → a ≠ x + 25 → iSee I x seen (nI cj) d a = I a := fun a h1 h2 h3 => by unfold iSee; rw [xst_o h1, xst_o h3, xst_o h2]
  generalize hJ : iSee I x seen (nI cj) d = J at w0
  have o : ∀ a, a ≠ x → a ≠ x + 24 → a ≠ x + 25 → a ≠ m → a ≠ m + 9 → a ≠ m + 10 → iSeM J m seen (nI cj) d a = I a := fun a h1 h2 h3 h4 h5 h6 => by unfold iSeM; rw [xst_o h4, xst_o h6, xst_o h5, w0 a h1 h2 h3]
  have ex : iSeM J m seen (nI cj) d x = upd (I x) 12 (nI (seen + 1)) := by unfold iSeM; rw [xst_o (by omega), xst_o (by omega), xst_o (by omega), ← hJ]; unfold iSee; rw [xst_s, xst_o (by omega), xst_o (by omega)]
  have e24 : iSeM J m seen (nI cj) d (x + 24) = upd (I (x + 24)) seen (nI cj) := by unfold iSeM; rw [xst_o (by omega), xst_o (by omega), xst_o (by omega), ← hJ]; unfold iSee; rw [xst_o (by omega), xst_o (by omega), xst_s]
  have e25 : iSeM J m seen (nI cj) d (x + 25) = upd (I (x + 25)) seen d := by unfold iSeM; rw [xst_o (by omega), xst_o (by omega), xst_o (by omega), ← hJ]; unfold iSee; rw [xst_o (by omega), xst_s, xst_o (by omega)]
  have em : iSeM J m seen (nI cj) d m = upd (I m) 19 (nI (seen + 1)) := by unfold iSeM; rw [xst_s, xst_o (by omega), xst_o (by omega), w0 m (by omega) (by omega) (by omega)]
  have em9 : iSeM J m seen (nI cj) d (m + 9) = upd (I (m + 9)) seen (nI cj) := by unfold iSeM; rw [xst_o (by omega), xst_o (by omega), xst_s, w0 _ (by omega) (by omega) (by omega)]
  have em10 : iSeM J m seen (nI cj) d (m + 10) = upd (I (m + 10)) seen d := by unfold iSeM; rw [xst_o (by omega), xst_s, xst_o (by omega), w0 _ (by omega) (by omega) (by omega)]
  refine h.aux hm (fun a ha => o a (by omega) (by omega) (by omega) (by omega) (by omega) (by omega)) (by rw [ex, upd_n (by omega)]) (by rw [ex, upd_n (by omega)]) (by rw [em, upd_n (by omega)]) (by rw [em, upd_n (by omega)]) (by rw [em, upd_n (by omega)]) (by rw [em, upd_n (by omega)])
    ⟨by rw [ex, upd_n (by omega)]; exact b1, by rw [em, upd_n (by omega)]; exact b2, b3, ?_⟩ ⟨by rw [ex, upd_s], by rw [em, upd_s], by omega, fun j hj => ?_⟩ h.2.2.2.2.2
  · rw [o (x + 1) (by omega) (by omega) (by omega) (by omega) (by omega) (by omega), o (m + 1) (by omega) (by omega) (by omega) (by omega) (by omega) (by omega)]
    exact b4
  · rw [e24, e25, em9, em10]
    by_cases e : j = seen
    · subst e; rw [upd_s, upd_s, upd_s, upd_s]; exact ⟨rfl, rfl, cj, hcj, rfl⟩
    · rw [upd_n e, upd_n e, upd_n e, upd_n e]; exact e4 j (by omega)
theorem JD.unsee {x m E mo na len seen : Nat} {p : Nat → Nat} (hm : m = x + 122) (h : JD x m E mo na len seen p R L I) : JD x m E mo na len 0 p R L (xst (xst I x 12 (nI 0)) m 19 (nI 0)) := by
  obtain ⟨b1, b2, b3, b4⟩ := h.2.1
  have o : ∀ a, a ≠ x → a ≠ m → xst (xst I x 12 (nI 0)) m 19 (nI 0) a = I a := fun a h1 h2 => by rw [xst_o h2, xst_o h1]
  have ex : xst (xst I x 12 (nI 0)) m 19 (nI 0) x = upd (I x) 12 (nI 0) := by rw [xst_o (by omega), xst_s]
  have em : xst (xst I x 12 (nI 0)) m 19 (nI 0) m = upd (I m) 19 (nI 0) := by rw [xst_s, xst_o (by omega)]
  refine h.aux hm (fun a ha => o a (by omega) (by omega)) (by rw [ex, upd_n (by omega)]) (by rw [ex, upd_n (by omega)]) (by rw [em, upd_n (by omega)]) (by rw [em, upd_n (by omega)]) (by rw [em, upd_n (by omega)]) (by rw [em, upd_n (by omega)])
    ⟨by rw [ex, upd_n (by omega)]; exact b1, by rw [em, upd_n (by omega)]; exact b2, b3, ?_⟩ ⟨by rw [ex, upd_s], by rw [em, upd_s], by omega, fun j hj => absurd hj (by omega)⟩ h.2.2.2.2.2
  rw [o (x + 1) (by omega) (by omega), o (m + 1) (by omega) (by omega)]
  exact b4
-- ===== undo, slots =====
theorem cpB_at {Q P : Nat → Int32} {n k : Nat} (h : k < n) : cpB Q P n k = Q k := if_pos h
theorem JD.undo {x m E mo na len seen : Nat} {p : Nat → Nat} {J I2 : xI} (hm : m = x + 122) (h : JD x m E mo na len seen p R L I) (h1 : 1 ≤ na) (hJ : J = pm (xst I x 7 (nI (na - 1))) (x + 9) (mS I (x + 26 + 6 * p (na - 1))))
    (hI2 : I2 = va_up (xst J m 16 (nI (na - 1))) (m + 3) (cpB (fun k => J (m + 6) (58 * (na - 1) + k)) (J (m + 3)) 58)) : JD x m E mo (na - 1) len seen p R L I2 := by
  subst hm
  obtain ⟨⟨a1, a2, a3⟩, ⟨b1, b2, b3, b4⟩, ⟨c1, c2, c3, c4, c5⟩, d, ⟨e1, e2, e3, e4⟩, f⟩ := h
  have oJ : ∀ a, a ≠ x → (a < x + 9 ∨ x + 15 ≤ a) → J a = I a := fun a h2 h3 => by rw [hJ, pm_o (by omega), xst_o h2]
  have o : ∀ a, a ≠ x → (a < x + 9 ∨ x + 15 ≤ a) → a ≠ x + 122 → a ≠ x + 122 + 3 → I2 a = I a := fun a h2 h3 h4 h5 => by rw [hI2, va_up_n h5, xst_o h4, oJ a h2 h3]
  have ex : I2 x = upd (I x) 7 (nI (na - 1)) := by rw [hI2, va_up_n (by omega), xst_o (by omega), hJ, pm_o (by omega), xst_s]
  have em : I2 (x + 122) = upd (I (x + 122)) 16 (nI (na - 1)) := by rw [hI2, va_up_n (by omega), xst_s, oJ _ (by omega) (by omega)]
  have n9 : mS I2 (x + 9) = mS I (x + 26 + 6 * p (na - 1)) := by
    rw [mS_cg (I2 := I2) (I := J) (h := x + 9) (fun j hj => by rw [hI2, va_up_n (by omega), xst_o (by omega)]), hJ]
    exact mS_pm
  have e3' : ∀ k, k < 58 → I2 (x + 122 + 3) k = I (x + 122 + 6) (58 * (na - 1) + k) := fun k hk => by rw [hI2, va_up_s, cpB_at hk, oJ _ (by omega) (by omega)]
  refine ⟨⟨by rw [em, upd_n (by omega)]; exact a1, by rw [em, upd_n (by omega)]; exact a2, ?_⟩, ⟨by rw [ex, upd_n (by omega)]; exact b1, by rw [em, upd_n (by omega)]; exact b2, b3, ?_⟩, ⟨by rw [ex, upd_s], by rw [em, upd_s], by omega, c4, fun i hi => ?_⟩, fun s hs2 => ?_, ⟨by rw [ex, upd_n (by omega)]; exact e1, by rw [em, upd_n (by omega)]; exact e2, e3, ?_⟩, f⟩
  · rw [o (x + 122 + 2) (by omega) (by omega) (by omega) (by omega), em, upd_n (by omega), n9]
    exact (c5 (na - 1) (by omega)).cg e3'
  · rw [o (x + 1) (by omega) (by omega) (by omega) (by omega), o (x + 122 + 1) (by omega) (by omega) (by omega) (by omega)]; exact b4
  · have hp := (c4.1 i (by omega)).2
    rw [o (x + 122 + 2) (by omega) (by omega) (by omega) (by omega), o (x + 122 + 6) (by omega) (by omega) (by omega) (by omega), em, upd_n (by omega), mS_cg (I2 := I2) (I := I) (h := x + 26 + 6 * p i) (fun j hj => o _ (by omega) (by omega) (by omega) (by omega))]
    exact c5 i (by omega)
  · rw [o (x + 122 + 8) (by omega) (by omega) (by omega) (by omega), ex, upd_n (by omega), o (x + 122 + 2) (by omega) (by omega) (by omega) (by omega), em, upd_n (by omega), o (x + 122 + 7) (by omega) (by omega) (by omega) (by omega), mS_cg (I2 := I2) (I := I) (h := x + 110 + 6 * s) (fun j hj => o _ (by omega) (by omega) (by omega) (by omega))]
    exact d s hs2
  · rw [o (x + 24) (by omega) (by omega) (by omega) (by omega), o (x + 25) (by omega) (by omega) (by omega) (by omega), o (x + 122 + 9) (by omega) (by omega) (by omega) (by omega), o (x + 122 + 10) (by omega) (by omega) (by omega) (by omega)]; exact e4
theorem JD.keep {x m E mo na len seen s : Nat} {p : Nat → Nat} {J I2 : xI} (hm : m = x + 122) (h : JD x m E mo na len seen p R L I) (hs2 : s < 2) (hJ : J = xst (pm I (x + 110 + 6 * s) (mS I (x + 9))) x 9 (I x 9 ||| (nI 1 <<< (nI s &&& 31))))
    (hI2 : I2 = va_up (xst J (m + 8) s (nI 1)) (m + 7) (cpA (J (m + 7)) (58 * s) (J (m + 3)) 58)) : JD x m E mo na len seen p R L I2 := by
  subst hm
  obtain ⟨⟨a1, a2, a3⟩, ⟨b1, b2, b3, b4⟩, ⟨c1, c2, c3, c4, c5⟩, d, ⟨e1, e2, e3, e4⟩, f⟩ := h
  have oJ : ∀ a, a ≠ x → (a < x + 110 + 6 * s ∨ x + 110 + 6 * s + 6 ≤ a) → J a = I a := fun a h2 h3 => by rw [hJ, xst_o h2, pm_o (by omega)]
  have o : ∀ a, a ≠ x → (a < x + 110 + 6 * s ∨ x + 110 + 6 * s + 6 ≤ a) → a ≠ x + 122 + 7 → a ≠ x + 122 + 8 → I2 a = I a := fun a h2 h3 h4 h5 => by rw [hI2, va_up_n h4, xst_o h5, oJ a h2 h3]
  have ex : I2 x = upd (I x) 9 (I x 9 ||| (nI 1 <<< (nI s &&& 31))) := by rw [hI2, va_up_n (by omega), xst_o (by omega), hJ, xst_s, pm_o (by omega)]
  have e8 : I2 (x + 122 + 8) = upd (I (x + 122 + 8)) s (nI 1) := by rw [hI2, va_up_n (by omega), xst_s, oJ _ (by omega) (by omega)]
  have e7 : I2 (x + 122 + 7) = cpA (I (x + 122 + 7)) (58 * s) (I (x + 122 + 3)) 58 := by rw [hI2, va_up_s, oJ _ (by omega) (by omega), oJ _ (by omega) (by omega)]
  have n9 : mS I2 (x + 9) = mS I (x + 9) := mS_cg (fun j hj => o _ (by omega) (by omega) (by omega) (by omega))
  have em : I2 (x + 122) = I (x + 122) := o _ (by omega) (by omega) (by omega) (by omega)
  refine ⟨⟨by rw [em]; exact a1, by rw [em]; exact a2, ?_⟩, ⟨by rw [ex, upd_n (by omega)]; exact b1, by rw [em]; exact b2, b3, ?_⟩, ⟨by rw [ex, upd_n (by omega)]; exact c1, by rw [em]; exact c2, c3, c4, fun i hi => ?_⟩, fun q hq2 => ?_, ⟨by rw [ex, upd_n (by omega)]; exact e1, by rw [em]; exact e2, e3, ?_⟩, f⟩
  · rw [o (x + 122 + 2) (by omega) (by omega) (by omega) (by omega), o (x + 122 + 3) (by omega) (by omega) (by omega) (by omega), em, n9]; exact a3
  · rw [o (x + 1) (by omega) (by omega) (by omega) (by omega), o (x + 122 + 1) (by omega) (by omega) (by omega) (by omega)]; exact b4
  · have hp := (c4.1 i (by omega)).2
    rw [o (x + 122 + 2) (by omega) (by omega) (by omega) (by omega), o (x + 122 + 6) (by omega) (by omega) (by omega) (by omega), em, mS_cg (I2 := I2) (I := I) (h := x + 26 + 6 * p i) (fun j hj => o _ (by omega) (by omega) (by omega) (by omega))]
    exact c5 i hi
  · rw [e8, ex, upd_s, e7, o (x + 122 + 2) (by omega) (by omega) (by omega) (by omega), em, hs_or (by omega), hs_one (by omega) (by omega)]
    by_cases e : q = s
    · subst e
      have n1 : mS I2 (x + 110 + 6 * q) = mS I (x + 9) := by
        rw [mS_cg (I2 := I2) (I := J) (h := x + 110 + 6 * q) (fun j hj => by rw [hI2, va_up_n (by omega), xst_o (by omega)]), hJ, mS_xst (by omega)]
        exact mS_pm
      rw [upd_s, decide_eq_true rfl, Bool.or_true, n1]
      refine ⟨rfl, fun _ => a3.cg (fun k hk => ?_)⟩
      unfold cpA
      rw [if_pos (by omega), Nat.add_sub_cancel_left]
    · have n2 : mS I2 (x + 110 + 6 * q) = mS I (x + 110 + 6 * q) := mS_cg (fun j hj => o _ (by omega) (by omega) (by omega) (by omega))
      rw [upd_n e, decide_eq_false e, Bool.or_false, n2]
      refine ⟨(d q hq2).1, fun z => ((d q hq2).2 z).cg (fun k hk => ?_)⟩
      unfold cpA
      rw [if_neg (by omega)]
  · rw [o (x + 24) (by omega) (by omega) (by omega) (by omega), o (x + 25) (by omega) (by omega) (by omega) (by omega), o (x + 122 + 9) (by omega) (by omega) (by omega) (by omega), o (x + 122 + 10) (by omega) (by omega) (by omega) (by omega)]; exact e4
theorem JD.again {x m E mo na len seen s : Nat} {p : Nat → Nat} {J I2 : xI} (hm : m = x + 122) (h : JD x m E mo na len seen p R L I) (hs2 : s < 2) (hk : hs (I x 9) (nI s) = true) (hJ : J = xst (pm I (x + 9) (mS I (x + 110 + 6 * s))) x 7 (nI 0))
    (hI2 : I2 = va_up (xst J m 16 (nI 0)) (m + 3) (cpB (fun k => J (m + 7) (58 * s + k)) (J (m + 3)) 58)) : JD x m E mo 0 len seen p R L I2 := by
  subst hm
  obtain ⟨⟨a1, a2, a3⟩, ⟨b1, b2, b3, b4⟩, ⟨c1, c2, c3, c4, c5⟩, d, ⟨e1, e2, e3, e4⟩, f⟩ := h
  have oJ : ∀ a, a ≠ x → (a < x + 9 ∨ x + 15 ≤ a) → J a = I a := fun a h2 h3 => by rw [hJ, xst_o h2, pm_o (by omega)]
  have o : ∀ a, a ≠ x → (a < x + 9 ∨ x + 15 ≤ a) → a ≠ x + 122 → a ≠ x + 122 + 3 → I2 a = I a := fun a h2 h3 h4 h5 => by rw [hI2, va_up_n h5, xst_o h4, oJ a h2 h3]
  have ex : I2 x = upd (I x) 7 (nI 0) := by rw [hI2, va_up_n (by omega), xst_o (by omega), hJ, xst_s, pm_o (by omega)]
  have em : I2 (x + 122) = upd (I (x + 122)) 16 (nI 0) := by rw [hI2, va_up_n (by omega), xst_s, oJ _ (by omega) (by omega)]
  have n9 : mS I2 (x + 9) = mS I (x + 110 + 6 * s) := by
    rw [mS_cg (I2 := I2) (I := J) (h := x + 9) (fun j hj => by rw [hI2, va_up_n (by omega), xst_o (by omega)]), hJ, mS_xst (by omega)]
    exact mS_pm
  have e3' : ∀ k, k < 58 → I2 (x + 122 + 3) k = I (x + 122 + 7) (58 * s + k) := fun k hk => by rw [hI2, va_up_s, cpB_at hk, oJ _ (by omega) (by omega)]
  refine ⟨⟨by rw [em, upd_n (by omega)]; exact a1, by rw [em, upd_n (by omega)]; exact a2, ?_⟩, ⟨by rw [ex, upd_n (by omega)]; exact b1, by rw [em, upd_n (by omega)]; exact b2, b3, ?_⟩, ⟨by rw [ex, upd_s], by rw [em, upd_s], by omega, c4, fun i hi => absurd hi (by omega)⟩, fun q hq2 => ?_, ⟨by rw [ex, upd_n (by omega)]; exact e1, by rw [em, upd_n (by omega)]; exact e2, e3, ?_⟩, f⟩
  · rw [o (x + 122 + 2) (by omega) (by omega) (by omega) (by omega), em, upd_n (by omega), n9]
    exact ((d s hs2).2 hk).cg e3'
  · rw [o (x + 1) (by omega) (by omega) (by omega) (by omega), o (x + 122 + 1) (by omega) (by omega) (by omega) (by omega)]; exact b4
  · rw [o (x + 122 + 8) (by omega) (by omega) (by omega) (by omega), ex, upd_n (by omega), o (x + 122 + 2) (by omega) (by omega) (by omega) (by omega), em, upd_n (by omega), o (x + 122 + 7) (by omega) (by omega) (by omega) (by omega), mS_cg (I2 := I2) (I := I) (h := x + 110 + 6 * q) (fun j hj => o _ (by omega) (by omega) (by omega) (by omega))]
    exact d q hq2
  · rw [o (x + 24) (by omega) (by omega) (by omega) (by omega), o (x + 25) (by omega) (by omega) (by omega) (by omega), o (x + 122 + 9) (by omega) (by omega) (by omega) (by omega), o (x + 122 + 10) (by omega) (by omega) (by omega) (by omega)]; exact e4
end XJB
