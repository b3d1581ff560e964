/-! BOTH SIDES AT ONCE: acts, the text read -/
section XJC
variable {G : xG} {T : xT} {R : xR} {L : xL} {I : xI}
/-- what the Model's methods ask, over the cells behind the class's call -/
def MH (G : xG) (T : xT) (m mo E na : Nat) (R : xR) (I : xI) (S : xS) : Prop := XM G T R m ∧ I m 5 = nI mo ∧ GB mo (I (m + 2)) S ∧ GV mo E S ∧ I m 4 = S.1 5 ∧ PR mo S (I (m + 3)) ∧ I m 0 = nI 0 ∧ I m 16 = nI na
theorem JD.mh {x m E mo na len seen : Nat} {p : Nat → Nat} {R2 : xR} {I2 : xI} (h : JD x m E mo na len seen p R L I) (hM : XM G T R m) (hr : R2 m = R m) (hi : ∀ a, m ≤ a → I2 a = I a) : MH G T m mo E na R2 I2 (mS I (x + 9)) := by
  obtain ⟨⟨a1, a2, a3⟩, b, ⟨c1, c2, c3, c4, c5⟩, -⟩ := h
  obtain ⟨q1, q2, q3, q4⟩ := a3
  exact ⟨hM.rr hr, by rw [hi m (by omega)]; exact a2, by rw [hi _ (by omega)]; exact q1, q2, by rw [hi m (by omega)]; exact q4, by rw [hi _ (by omega)]; exact q3, by rw [hi m (by omega)]; exact a1, by rw [hi m (by omega)]; exact c2⟩
theorem JA {x m E mo na len seen : Nat} {p : Nat → Nat} {Y' : xY} {av : List Value} {e v r1 : Int32} {S' : xS} {R2 : xR} {I2 : xI} (hm : m = x + 122) (hX : XS G T R x) (hM : XM G T R m) (h : JD x m E mo na len seen p R L I)
    (g1 : (e = 0 ∧ r1 = v ∧ ActP x na p R I S' R2 I2) ∨ (¬ e = 0 ∧ r1 = e ∧ R2 = R ∧ I2 = I)) (hS : e = 0 → GB mo (I (m + 2)) S' ∧ GV mo (E + 1) S' ∧ I m 4 = S'.1 5)
    (hc : MH G T m mo E na R2 I2 (mS I (x + 9)) → xCon G Y' av T R2 L I2 (T, fun o2 R3 L3 I3 => ∃ r, o2 = some (.int r) ∧ (R3 = R2 ∧ L3 = L ∧ ((e = 0 ∧ r = v ∧ ∃ Q, I3 = va_up (nt m na I2) (m + 3) Q ∧ PR mo S' Q) ∨ (¬ e = 0 ∧ r = e ∧ I3 = I2))))) :
    xCon G Y' av T R2 L I2 (T, fun o2 R3 L3 I3 => ∃ r, o2 = some (.int r) ∧ (r = r1 ∧ JI G T x m (E + 1) R3 L3 I3)) := by
  have hi : ∀ a, m ≤ a → I2 a = I a := fun a ha => by
    rcases g1 with ⟨-, -, g⟩ | ⟨-, -, -, rfl⟩
    · exact g.hi (by omega)
    · rfl
  have hr : ∀ a, a ≠ x + 22 → R2 a = R a := fun a ha => by
    rcases g1 with ⟨-, -, g⟩ | ⟨-, -, rfl, -⟩
    · exact g.rr a ha
    · rfl
  refine xCon.wk (hc (h.mh hM (hr m (by omega)) hi)) (fun o2 R3 L3 I3 z => ?_)
  obtain ⟨r, z1, rfl, rfl, z4⟩ := z
  refine ⟨r, z1, ?_⟩
  rcases z4 with ⟨y1, y2, Q, rfl, y4⟩ | ⟨y1, y2, rfl⟩
  · rcases g1 with ⟨-, w2, w3⟩ | ⟨w1, -⟩
    · obtain ⟨s1, s2, s3⟩ := hS y1
      obtain ⟨p2, hJ2⟩ := h.act hm w3 y4 s1 s2 s3
      exact ⟨y2.trans w2.symm, hm, hX.R2 hr, hM.rr (hr m (by omega)), mo, rN na, len, seen, p2, hJ2⟩
    · exact absurd y1 w1
  · rcases g1 with ⟨w1, -⟩ | ⟨-, w2, rfl, rfl⟩
    · exact absurd w1 y1
    · exact ⟨y2.trans w2.symm, h.ji hm hX hM⟩
theorem J2_pray {x m E mo na len seen : Nat} {p : Nat → Nat} {v r1 : Int32} {R2 : xR} {I2 : xI} (hm : m = x + 122) (hX : XS G T R x) (hM : XM G T R m) (h : JD x m E mo na len seen p R L I)
    (g1 : (ePray (mS I (x + 9)) v = 0 ∧ r1 = vPr mo (mS I (x + 9)) v.toNatClampNeg ∧ ActP x na p R I (gPr mo (mS I (x + 9)) v.toNatClampNeg) R2 I2) ∨ (¬ ePray (mS I (x + 9)) v = 0 ∧ r1 = ePray (mS I (x + 9)) v ∧ R2 = R ∧ I2 = I)) :
    xCon G Y_X3_pray [.ref m, .int v] T R2 L I2 (T, fun o2 R3 L3 I3 => ∃ r, o2 = some (.int r) ∧ (r = r1 ∧ JI G T x m (E + 1) R3 L3 I3)) := by
  refine JA hm hX hM h g1 (fun _ => ?_) (fun q => ?_)
  · obtain ⟨b1, b2, b3, b4⟩ := h.1.2.2
    exact ⟨b1.keep (keep_pr mo _ _), (GV.prD b1 b2 _).1, b4.trans (keep_pr mo _ _).1.symm⟩
  · obtain ⟨q1, q2, q3, q4, q5, q6, q7, q8⟩ := q
    exact K_pray q1 q2 q3 q4 q5 q6 q7 q8 h.2.2.1.2.2.1
theorem J2_day {x m E mo na len seen : Nat} {p : Nat → Nat} {r1 : Int32} {R2 : xR} {I2 : xI} (hm : m = x + 122) (hX : XS G T R x) (hM : XM G T R m) (h : JD x m E mo na len seen p R L I) (hE : E < 10000)
    (g1 : r1 = vEdv mo (mS I (x + 9)) ∧ ActP x na p R I (gEd mo (mS I (x + 9))) R2 I2) :
    xCon G Y_X3_day [.ref m] T R2 L I2 (T, fun o2 R3 L3 I3 => ∃ r, o2 = some (.int r) ∧ (r = r1 ∧ JI G T x m (E + 1) R3 L3 I3)) := by
  refine JA (e := 0) (v := vEdv mo (mS I (x + 9))) hm hX hM h (Or.inl ⟨rfl, g1⟩) (fun _ => ?_) (fun q => ?_)
  · obtain ⟨b1, b2, b3, b4⟩ := h.1.2.2
    exact ⟨b1.keep (keep_ed mo _), (GV.edD b1 b2 (by omega)).1.up (by omega), b4.trans (keep_ed mo _).1.symm⟩
  · obtain ⟨q1, q2, q3, q4, q5, q6, q7, q8⟩ := q
    refine xCon.wk (K_day q1 q2 q3 q4 q5 q6 q7 q8 h.2.2.1.2.2.1 (by omega)) (fun o2 R3 L3 I3 z => ?_)
    obtain ⟨r, z1, z2, z3, z4, Q, z5, z6⟩ := z
    exact ⟨r, z1, z2, z3, Or.inl ⟨rfl, z4, Q, z5, z6⟩⟩
theorem eOath_ok {mo E : Nat} {se : Nat → Int32} {S : xS} {v : Int32} (hB : GB mo se S) (hV : GV mo E S) (h : eOath S v = 0) : ∃ j, j < mo ∧ v = nI j ∧ hs (S.1 9) (nI (plN S.2.2.2.2.2 j)) = false ∧ ∃ d, d < 9 ∧ S.2.2.2.1 (plN S.2.2.2.2.2 j) = nI d := by
  by_cases c : ePray S v = 0
  · obtain ⟨j, hj, rfl, hl⟩ := ePray_ok hB c
    have hc := (hB.1.2.2 j hj).2
    cases hf : hs (S.1 9) (nI (plN S.2.2.2.2.2 j))
    · by_cases h9 : S.2.2.2.1 (plN S.2.2.2.2.2 j) = nI 9
      · rw [eOath_9 hB hj hl hf h9] at h
        exact absurd h (by decide)
      · obtain ⟨d, hd, ed⟩ := hV.2.2.1 _ hc
        exact ⟨j, hj, rfl, hf, d, by have : d ≠ 9 := fun z => h9 (by rw [ed, z]); omega, ed⟩
    · rw [eOath_f hB hj hl hf] at h
      exact absurd h (by decide)
  · rw [eOath_no c] at h
    exact absurd h c
theorem J2_oath {x m E mo na len seen : Nat} {p : Nat → Nat} {v r1 : Int32} {R2 : xR} {I2 : xI} (hm : m = x + 122) (hX : XS G T R x) (hM : XM G T R m) (h : JD x m E mo na len seen p R L I)
    (g1 : (eOath (mS I (x + 9)) v = 0 ∧ r1 = vOath (mS I (x + 9)) v ∧ ActP x na p R I (gOath (mS I (x + 9)) v) R2 I2) ∨ (¬ eOath (mS I (x + 9)) v = 0 ∧ r1 = eOath (mS I (x + 9)) v ∧ R2 = R ∧ I2 = I)) :
    xCon G Y_X3_oath [.ref m, .int v] T R2 L I2 (T, fun o2 R3 L3 I3 => ∃ r, o2 = some (.int r) ∧ (r = r1 ∧ JI G T x m (E + 1) R3 L3 I3)) := by
  refine JA hm hX hM h g1 (fun e0 => ?_) (fun q => ?_)
  · obtain ⟨b1, b2, b3, b4⟩ := h.1.2.2
    obtain ⟨j, hj, rfl, hf, d, hd, ed⟩ := eOath_ok b1 b2 e0
    have hc := (b1.1.2.2 j hj).2
    rw [(gOath_N b1.1 hj).1]
    exact ⟨b1.keep ⟨rfl, rfl, rfl, rfl⟩, (GV.w3 b2 hc hf ⟨d + 1, by omega, by rw [ed, nI_add]⟩).up (by omega), b4⟩
  · obtain ⟨q1, q2, q3, q4, q5, q6, q7, q8⟩ := q
    exact K_oath q1 q2 q3 q4 q5 q6 q7 q8 h.2.2.1.2.2.1
theorem dbt_N : ∀ d, d < 100 → (if nI 0 < nI d - nI 1 then nI d - nI 1 else nI 0) = nI (d - 1) := by decide +kernel
theorem J2_doubt {x m E mo na len seen : Nat} {p : Nat → Nat} {v r1 : Int32} {R2 : xR} {I2 : xI} (hm : m = x + 122) (hX : XS G T R x) (hM : XM G T R m) (h : JD x m E mo na len seen p R L I)
    (g1 : (ePray (mS I (x + 9)) v = 0 ∧ r1 = vDoubt (mS I (x + 9)) v ∧ ActP x na p R I (gDoubt (mS I (x + 9)) v) R2 I2) ∨ (¬ ePray (mS I (x + 9)) v = 0 ∧ r1 = ePray (mS I (x + 9)) v ∧ R2 = R ∧ I2 = I)) :
    xCon G Y_X3_doubt [.ref m, .int v] T R2 L I2 (T, fun o2 R3 L3 I3 => ∃ r, o2 = some (.int r) ∧ (r = r1 ∧ JI G T x m (E + 1) R3 L3 I3)) := by
  refine JA hm hX hM h g1 (fun e0 => ?_) (fun q => ?_)
  · obtain ⟨b1, b2, b3, b4⟩ := h.1.2.2
    obtain ⟨j, hj, rfl, hl⟩ := ePray_ok b1 e0
    have hc := (b1.1.2.2 j hj).2
    obtain ⟨d, hd, ed⟩ := b2.2.2.2.1 _ hc
    have ev : vDoubt (mS I (x + 9)) (nI j) = nI (d - 1) := by
      unfold vDoubt
      rw [xat_pl b1.1 hj, xatN hc (by decide), ed]
      exact dbt_N d (by omega)
    rw [(vDoubt_N b1 b2 hj).2.2, ev]
    refine ⟨b1.keep ⟨rfl, rfl, rfl, rfl⟩, (GV.w2 b2 hc ⟨d - 1, by omega, rfl⟩ (fun hf => ?_)).up (by omega), b4⟩
    have z := (b2.2.2.2.2.2.1 _ hc hf).1
    rw [ed] at z
    have := (nI_eq (by omega) (by decide)).mp z
    rw [this]
  · obtain ⟨q1, q2, q3, q4, q5, q6, q7, q8⟩ := q
    exact K_doubt q1 q2 q3 q4 q5 q6 q7 q8 h.2.2.1.2.2.1
theorem eWalk_ok {mo : Nat} {se : Nat → Int32} {S : xS} {v c : Int32} (hB : GB mo se S) (h : eWalk S v c = 0) : ∃ j d, j < mo ∧ d < 12 ∧ v = nI j ∧ c = nI d := by
  cases h1 : bMonk S.1 v
  · rw [eWalk_u (Or.inl h1)] at h; exact absurd h (by decide)
  · cases h2 : bCell c
    · rw [eWalk_u (Or.inr h2)] at h; exact absurd h (by decide)
    · obtain ⟨ev, hj⟩ := bLiv_N hB.1.1 (by have := hB.1.2.1; omega) h1
      obtain ⟨d, hd, ec⟩ := bC_j h2
      exact ⟨_, d, hj, hd, ev, ec⟩
theorem J2_walk {x m E mo na len seen : Nat} {p : Nat → Nat} {v c r1 : Int32} {R2 : xR} {I2 : xI} (hm : m = x + 122) (hX : XS G T R x) (hM : XM G T R m) (h : JD x m E mo na len seen p R L I)
    (g1 : (eWalk (mS I (x + 9)) v c = 0 ∧ r1 = vWalk mo (mS I (x + 9)) v c ∧ ActP x na p R I (gWalk (mS I (x + 9)) v c) R2 I2) ∨ (¬ eWalk (mS I (x + 9)) v c = 0 ∧ r1 = eWalk (mS I (x + 9)) v c ∧ R2 = R ∧ I2 = I)) :
    xCon G Y_X3_walk [.ref m, .int v, .int c] T R2 L I2 (T, fun o2 R3 L3 I3 => ∃ r, o2 = some (.int r) ∧ (r = r1 ∧ JI G T x m (E + 1) R3 L3 I3)) := by
  refine JA hm hX hM h g1 (fun e0 => ?_) (fun q => ?_)
  · obtain ⟨b1, b2, b3, b4⟩ := h.1.2.2
    obtain ⟨j, d, hj, hd, rfl, rfl⟩ := eWalk_ok b1 e0
    rw [gWalk_N b1.1 hj]
    exact ⟨GB.w5 b1 hd, (GV.w5 b2).up (by omega), b4⟩
  · obtain ⟨q1, q2, q3, q4, q5, q6, q7, q8⟩ := q
    exact K_walk q1 q2 q3 q4 q5 q6 q7 q8 h.2.2.1.2.2.1
-- ===== the text read =====
theorem rLoop_cg {txt txt' : Nat → Int32} : ∀ n i (X : xRd), (∀ j, i ≤ j → j < i + n → txt j = txt' j) → rLoop txt n i X = rLoop txt' n i X := by
  intro n
  induction n with
  | zero => intro i X _; rfl
  | succ n ih =>
    intro i X h
    rw [rLoop, rLoop, h i (by omega) (by omega)]
    by_cases c : (rAcc (txt' i) X).1 = true
    · rw [if_pos c, if_pos c]; exact ih (i + 1) _ (fun j h1 h2 => h j (by omega) (by omega))
    · rw [if_neg c, if_neg c]
theorem Cl.x0 {q : Nat} : Cl (rX0 I q) := by
  refine ⟨?_, ?_, ?_, ?_, ?_, ?_, ?_, ?_, fun c hc => ⟨if_pos hc, if_pos hc, if_pos hc, if_pos hc⟩⟩ <;> simp [rX0, clrF, upd]
theorem tkM_m {J : xI} {m mo : Nat} : tkM J m mo m = upd (upd (upd (J m) 4 (J m 8)) 5 (nI mo)) 16 (nI 0) := by
  unfold tkM
  rw [xst_o (by omega), xst_o (by omega), xst_s, va_up_n (by omega), va_up_n (by omega), xst_s, xst_s]
theorem tkM_2 {J : xI} {m mo : Nat} : tkM J m mo (m + 2) = cpB (J (m + 5)) (J (m + 2)) mo := by
  unfold tkM
  rw [xst_o (by omega), xst_o (by omega), xst_o (by omega), va_up_s]
theorem tkM_3 {J : xI} {m mo : Nat} : tkM J m mo (m + 3) = cpB (J (m + 4)) (J (m + 3)) 58 := by
  unfold tkM
  rw [xst_o (by omega), xst_o (by omega), xst_o (by omega), va_up_n (by omega), va_up_s]
theorem tkM_8 {J : xI} {m mo : Nat} : tkM J m mo (m + 8) = upd (upd (J (m + 8)) 0 (nI 0)) 1 (nI 0) := by
  unfold tkM
  rw [xst_s, xst_s, xst_o (by omega), va_up_n (by omega), va_up_n (by omega), xst_o (by omega), xst_o (by omega)]
theorem tkM_o {J : xI} {m mo a : Nat} (h : a ≠ m) (h2 : a ≠ m + 2) (h3 : a ≠ m + 3) (h8 : a ≠ m + 8) : tkM J m mo a = J a := by
  unfold tkM
  rw [xst_o h8, xst_o h8, xst_o h, va_up_n h2, va_up_n h3, xst_o h, xst_o h]
theorem JD.mine {x m E mo na len seen mo2 : Nat} {p : Nat → Nat} {J I1 I3 : xI} {S' : xS} {F' W' V' : Nat → Int32} (hm : m = x + 122) (h : JD x m E mo na len seen p R L I) (hJ : Scr x I J) (hI1 : I1 = xst (xst (pm J (x + 9) S') x 7 (nI 0)) x 9 (nI 0))
    (hk : KF (I1 m) F') (hR : RR mo2 S' F' W' V') (hI3 : I3 = tkM (rM I1 m F' W' V') m mo2) : JD x m E mo2 0 len seen p R L I3 := by
  subst hm
  obtain ⟨⟨a1, a2, a3⟩, ⟨b1, b2, b3, b4⟩, ⟨c1, c2, c3, c4, c5⟩, d, ⟨e1, e2, e3, e4⟩, f⟩ := h
  obtain ⟨k0, k2, k4, k5, k16, k19⟩ := hk
  obtain ⟨r1, r2, r3, r4, r5, r6, r7, r8⟩ := hR
  have o1 : ∀ a, a ≠ x → (a < x + 9 ∨ x + 15 ≤ a) → ¬ scr x a → I1 a = I a := fun a h2 h3 h4 => by rw [hI1, xst_o h2, xst_o h2, pm_o (by omega)]; exact hJ a h4
  have im : I1 (x + 122) = I (x + 122) := o1 _ (by omega) (by omega) (by unfold scr; omega)
  rw [im] at k0 k2 k4 k5 k16 k19
  have o : ∀ a, a ≠ x → (a < x + 9 ∨ x + 15 ≤ a) → ¬ scr x a → a ≠ x + 122 → a ≠ x + 122 + 2 → a ≠ x + 122 + 3 → a ≠ x + 122 + 4 → a ≠ x + 122 + 5 → a ≠ x + 122 + 8 → I3 a = I a := fun a h2 h3 h4 h5 h6 h7 h8 h9 h10 => by
    rw [hI3, tkM_o h5 h6 h7 h10, rM_o h5 h8 h9]; exact o1 a h2 h3 h4
  have ex : I3 x = upd (upd (I x) 7 (nI 0)) 9 (nI 0) := by
    rw [hI3, tkM_o (by omega) (by omega) (by omega) (by omega), rM_o (by omega) (by omega) (by omega), hI1, xst_s, xst_s, pm_o (by omega), hJ x (by unfold scr; omega)]
  have em : I3 (x + 122) = upd (upd (upd F' 4 (F' 8)) 5 (nI mo2)) 16 (nI 0) := by rw [hI3, tkM_m, rM_m]
  have n9 : mS I3 (x + 9) = S' := by
    rw [mS_cg (I2 := I3) (I := I1) (h := x + 9) (fun j hj => by rw [hI3, tkM_o (by omega) (by omega) (by omega) (by omega), rM_o (by omega) (by omega) (by omega)]), hI1, mS_xst (by omega), mS_xst (by omega)]
    exact mS_pm
  have em2 : ∀ j, j < mo2 → I3 (x + 122 + 2) j = V' j := fun j hj => by rw [hI3, tkM_2, rM_5, cpB_at hj]
  have em3 : ∀ k, k < 58 → I3 (x + 122 + 3) k = W' k := fun k hk => by rw [hI3, tkM_3, rM_4, cpB_at hk]
  have em8 : I3 (x + 122 + 8) = upd (upd (I (x + 122 + 8)) 0 (nI 0)) 1 (nI 0) := by rw [hI3, tkM_8, rM_o (by omega) (by omega) (by omega), o1 _ (by omega) (by omega) (by unfold scr; omega)]
  refine ⟨⟨by rw [em, upd_n (by omega), upd_n (by omega), upd_n (by omega)]; exact k0.trans a1, by rw [em, upd_n (by omega), upd_s], ?_⟩, ⟨by rw [ex, upd_n (by omega), upd_n (by omega)]; exact b1, by rw [em, upd_n (by omega), upd_n (by omega), upd_n (by omega)]; exact k2.trans b2, b3, ?_⟩,
    ⟨by rw [ex, upd_n (by omega), upd_s], by rw [em, upd_s], by omega, c4, fun i hi => absurd hi (by omega)⟩, fun s hs2 => ?_, ⟨by rw [ex, upd_n (by omega), upd_n (by omega)]; exact e1, by rw [em, upd_n (by omega), upd_n (by omega), upd_n (by omega)]; exact k19.trans e2, e3, ?_⟩, f⟩
  · rw [n9, em, upd_n (by omega), upd_n (by omega), upd_s]
    exact ⟨r6.cg em2, (r7.gv mo2).up (by omega), r5.cg r6.1.2.1 em3, r4⟩
  · rw [o (x + 1) (by omega) (by omega) (by unfold scr; omega) (by omega) (by omega) (by omega) (by omega) (by omega) (by omega), o (x + 122 + 1) (by omega) (by omega) (by unfold scr; omega) (by omega) (by omega) (by omega) (by omega) (by omega) (by omega)]; exact b4
  · rw [em8, ex, upd_s, hs_z (by omega)]
    refine ⟨?_, fun z => by cases z⟩
    have : s = 0 ∨ s = 1 := by omega
    rcases this with rfl | rfl
    · rw [upd_n (by omega), upd_s]; rfl
    · rw [upd_s]; rfl
  · rw [o (x + 24) (by omega) (by omega) (by unfold scr; omega) (by omega) (by omega) (by omega) (by omega) (by omega) (by omega), o (x + 25) (by omega) (by omega) (by unfold scr; omega) (by omega) (by omega) (by omega) (by omega) (by omega) (by omega), o (x + 122 + 9) (by omega) (by omega) (by unfold scr; omega) (by omega) (by omega) (by omega) (by omega) (by omega) (by omega), o (x + 122 + 10) (by omega) (by omega) (by unfold scr; omega) (by omega) (by omega) (by omega) (by omega) (by omega) (by omega)]; exact e4
theorem JD.hi {x m a : Nat} {I2 : xI} (hm : m = x + 122) (hS : Scr x I I2) (ha : m ≤ a) : I2 a = I a := hS a (by unfold scr; omega)
theorem rd_eq {x m E mo na len seen : Nat} {p : Nat → Nat} {I1 : xI} (h : JD x m E mo na len seen p R L I) (h1 : I1 (m + 1) = I (m + 1)) : rLoop (I1 (m + 1)) len 0 (rX0 I (x + 2)) = rLoop (I (x + 1)) len 0 (rX0 I (x + 2)) := by
  rw [h1]
  exact rLoop_cg len 0 _ (fun j _ hj => ((h.2.1.2.2.2 j (by omega)).1).symm)
theorem J2_fault {x m E mo na len seen : Nat} {p : Nat → Nat} {I1 : xI} (hm : m = x + 122) (hX : XS G T R x) (hM : XM G T R m) (h : JD x m E mo na len seen p R L I) (hS : Scr x I I1) :
    xCon G Y_X3_fault [.ref m] T R L I1 (T, fun o2 R3 L3 I3 => ∃ r, o2 = some (.int r) ∧ (r = (rLoop (I (x + 1)) len 0 (rX0 I (x + 2))).1 ∧ JI G T x m (E + 1) R3 L3 I3)) := by
  have hi : ∀ a, m ≤ a → I1 a = I a := fun a ha => JD.hi hm hS ha
  have e := rd_eq h (hi (m + 1) (by omega))
  refine xCon.wk (K_fault (I := I1) (len := len) (X := rX0 I (x + 2)) hM (by rw [hi m (by omega)]; exact h.2.1.2.1) h.2.1.2.2.1 (fun j hj => by rw [hi (m + 1) (by omega)]; exact (h.2.1.2.2.2 j hj).2) Cl.x0 (by rw [hi m (by omega)]; exact h.1.1)) (fun o2 R3 L3 I3 z => ?_)
  obtain ⟨r, z1, z2, rfl, rfl, F', W', V', rfl, z6, z7⟩ := z
  exact ⟨r, z1, by rw [z2, e], ((h.qs hm hS).rd hm z6).ji hm hX hM⟩
theorem J2_mine {x m E mo na len seen : Nat} {p : Nat → Nat} {r1 : Int32} {I1 : xI} (hm : m = x + 122) (hX : XS G T R x) (hM : XM G T R m) (h : JD x m E mo na len seen p R L I)
    (g1 : (¬ (rLoop (I (x + 1)) len 0 (rX0 I (x + 2))).1 = -9 ∧ r1 = -3 ∧ Scr x I I1) ∨ ((rLoop (I (x + 1)) len 0 (rX0 I (x + 2))).1 = -9 ∧ r1 = (rLoop (I (x + 1)) len 0 (rX0 I (x + 2))).2.2.1 6 ∧ ∃ J, Scr x I J ∧ I1 = xst (xst (pm J (x + 9) (rLoop (I (x + 1)) len 0 (rX0 I (x + 2))).2.2) x 7 (nI 0)) x 9 (nI 0))) :
    xCon G Y_X3_mine [.ref m] T R L I1 (T, fun o2 R3 L3 I3 => ∃ r, o2 = some (.int r) ∧ (r = r1 ∧ JI G T x m (E + 1) R3 L3 I3)) := by
  have hi : ∀ a, m ≤ a → I1 a = I a := fun a ha => by
    rcases g1 with ⟨-, -, g⟩ | ⟨-, -, J, g, rfl⟩
    · exact JD.hi hm g ha
    · rw [xst_o (by omega), xst_o (by omega), pm_o (by omega)]; exact JD.hi hm g ha
  have e := rd_eq h (hi (m + 1) (by omega))
  refine xCon.wk (K_mine (I := I1) (len := len) (X := rX0 I (x + 2)) hM (by rw [hi m (by omega)]; exact h.2.1.2.1) h.2.1.2.2.1 (fun j hj => by rw [hi (m + 1) (by omega)]; exact (h.2.1.2.2.2 j hj).2) Cl.x0 (by rw [hi m (by omega)]; exact h.1.1)) (fun o2 R3 L3 I3 z => ?_)
  rw [e] at z
  obtain ⟨r, z1, rfl, rfl, F', W', V', z6, z7⟩ := z
  refine ⟨r, z1, ?_⟩
  rcases z7 with ⟨y1, y2, rfl⟩ | ⟨y1, mo2, y2, y3, y4⟩
  · rcases g1 with ⟨-, w2, w3⟩ | ⟨w1, -⟩
    · exact ⟨y2.trans w2.symm, ((h.qs hm w3).rd hm z6).ji hm hX hM⟩
    · exact absurd w1 y1
  · rcases g1 with ⟨w1, -⟩ | ⟨-, w2, J, w3, w4⟩
    · exact absurd y1 w1
    · refine ⟨?_, hm, hX, hM, mo2, 0, len, seen, p, (h.mine hm w3 w4 z6 y2 y4).up (by omega)⟩
      rw [y3, w2]
      exact y2.2.2.2.2.2.1.1.1.symm
end XJC
