/-! BOTH SIDES AT ONCE: what the class's cells and the Model's cells tell, and how it stays -/
section XJA
variable {G : xG} {T : xT} {R : xR} {L : xL} {I : xI}
def MW (mo E : Nat) (se : Nat → Int32) (ho : Int32) (S : xS) (P : Nat → Int32) : Prop := GB mo se S ∧ GV mo E S ∧ PR mo S P ∧ ho = S.1 5
theorem MW.up {mo E E' : Nat} {se : Nat → Int32} {ho : Int32} {S : xS} {P : Nat → Int32} (h : MW mo E se ho S P) (hE : E ≤ E') : MW mo E' se ho S P := ⟨h.1, h.2.1.up hE, h.2.2⟩
theorem PR.cg {mo : Nat} {S : xS} {P P' : Nat → Int32} (hm : mo ≤ 4) (h : PR mo S P) (e : ∀ k, k < 58 → P' k = P k) : PR mo S P' := by
  obtain ⟨p1, p2, p3, p4, p5, p6, p7, p8, p9⟩ := h
  exact ⟨fun c hc => (e _ (by omega)).trans (p1 c hc), fun c hc => (e _ (by omega)).trans (p2 c hc), fun c hc => (e _ (by omega)).trans (p3 c hc), fun c hc => (e _ (by omega)).trans (p4 c hc), fun j hj => (e _ (by omega)).trans (p5 j hj),
    (e _ (by omega)).trans p6, (e _ (by omega)).trans p7, (e _ (by omega)).trans p8, (e _ (by omega)).trans p9⟩
theorem MW.cg {mo E : Nat} {se : Nat → Int32} {ho : Int32} {S : xS} {P P' : Nat → Int32} (h : MW mo E se ho S P) (e : ∀ k, k < 58 → P' k = P k) : MW mo E se ho S P' := ⟨h.1, h.2.1, h.2.2.1.cg h.1.1.2.1 e, h.2.2.2⟩
theorem GB.cg {mo : Nat} {se se' : Nat → Int32} {S : xS} (h : GB mo se S) (e : ∀ j, j < mo → se' j = se j) : GB mo se' S := ⟨h.1, h.2.1, fun j hj => by rw [e j hj]; exact h.2.2 j hj⟩
def JD (x m E mo na len seen : Nat) (p : Nat → Nat) (R : xR) (L : xL) (I : xI) : Prop :=
  (I m 0 = nI 0 ∧ I m 5 = nI mo ∧ MW mo E (I (m + 2)) (I m 4) (mS I (x + 9)) (I (m + 3))) ∧
  (I x 1 = nI len ∧ I m 2 = nI len ∧ len ≤ 72 ∧ ∀ j, j < len → I (x + 1) j = I (m + 1) j ∧ ∃ q, q < 256 ∧ I (m + 1) j = nI q) ∧
  (I x 7 = nI na ∧ I m 16 = nI na ∧ na ≤ 14 ∧ PastR R x p ∧ ∀ i, i < na → MW mo E (I (m + 2)) (I m 4) (mS I (x + 26 + 6 * p i)) (fun k => I (m + 6) (58 * i + k))) ∧
  (∀ s, s < 2 → I (m + 8) s = xb (hs (I x 9) (nI s)) ∧ (hs (I x 9) (nI s) = true → MW mo E (I (m + 2)) (I m 4) (mS I (x + 110 + 6 * s)) (fun k => I (m + 7) (58 * s + k)))) ∧
  (I x 12 = nI seen ∧ I m 19 = nI seen ∧ seen ≤ 6 ∧ ∀ j, j < seen → I (x + 24) j = I (m + 9) j ∧ I (x + 25) j = I (m + 10) j ∧ ∃ c, c < 12 ∧ I (m + 9) j = nI c) ∧
  L x 13 = L m 14
theorem mS_cg {I2 : xI} {h : Nat} (e : ∀ j, j < 6 → I2 (h + j) = I (h + j)) : mS I2 h = mS I h := by
  unfold mS
  have e0 := e 0 (by omega)
  rw [Nat.add_zero] at e0
  rw [e0, e 1 (by omega), e 2 (by omega), e 3 (by omega), e 4 (by omega), e 5 (by omega)]
theorem JD.up {x m E E' mo na len seen : Nat} {p : Nat → Nat} (h : JD x m E mo na len seen p R L I) (hE : E ≤ E') : JD x m E' mo na len seen p R L I := by
  obtain ⟨⟨a1, a2, a3⟩, b, ⟨c1, c2, c3, c4, c5⟩, d, e⟩ := h
  exact ⟨⟨a1, a2, a3.up hE⟩, b, ⟨c1, c2, c3, c4, fun i hi => (c5 i hi).up hE⟩, fun s hs2 => ⟨(d s hs2).1, fun z => ((d s hs2).2 z).up hE⟩, e⟩
/-- cells that tell nothing of the state may change -/
theorem JD.cg {x m E mo na len seen : Nat} {p : Nat → Nat} {I2 : xI} (hm : m = x + 122) (h : JD x m E mo na len seen p R L I) (he : ∀ a, ¬ scr x a → a ≠ m → a ≠ m + 4 → a ≠ m + 5 → a ≠ m + 11 → I2 a = I a) (hk : KF (I m) (I2 m)) : JD x m E mo na len seen p R L I2 := by
  subst hm
  obtain ⟨k0, k2, k4, k5, k16, k19⟩ := hk
  obtain ⟨⟨a1, a2, a3⟩, ⟨b1, b2, b3, b4⟩, ⟨c1, c2, c3, c4, c5⟩, d, ⟨e1, e2, e3, e4⟩, f⟩ := h
  have ex : I2 x = I x := he _ (by unfold scr; omega) (by omega) (by omega) (by omega) (by omega)
  have o : ∀ a, (a = x + 1 ∨ (x + 9 ≤ a ∧ a < x + 15) ∨ (x + 22 ≤ a ∧ a < x + 122) ∨ a = x + 122 + 1 ∨ a = x + 122 + 2 ∨ a = x + 122 + 3 ∨ (x + 122 + 6 ≤ a ∧ a ≤ x + 122 + 10)) → I2 a = I a := fun a ha => he a (by unfold scr; omega) (by omega) (by omega) (by omega) (by omega)
  have n9 : mS I2 (x + 9) = mS I (x + 9) := mS_cg (fun j hj => o _ (by omega))
  refine ⟨⟨k0.trans a1, k5.trans a2, ?_⟩, ⟨by rw [ex]; exact b1, k2.trans b2, b3, ?_⟩, ⟨by rw [ex]; exact c1, k16.trans c2, c3, c4, fun i hi => ?_⟩, fun s hs2 => ?_, ⟨by rw [ex]; exact e1, k19.trans e2, e3, ?_⟩, f⟩
  · rw [o (x + 122 + 2) (by omega), o (x + 122 + 3) (by omega), n9, k4]; exact a3
  · rw [o (x + 1) (by omega), o (x + 122 + 1) (by omega)]; exact b4
  · have hp := (c4.1 i (by omega)).2
    rw [o (x + 122 + 2) (by omega), o (x + 122 + 6) (by omega), mS_cg (I2 := I2) (h := x + 26 + 6 * p i) (fun j hj => o _ (by omega)), k4]; exact c5 i hi
  · rw [o (x + 122 + 8) (by omega), ex, o (x + 122 + 2) (by omega), o (x + 122 + 7) (by omega), mS_cg (I2 := I2) (h := x + 110 + 6 * s) (fun j hj => o _ (by omega)), k4]; exact d s hs2
  · rw [o (x + 24) (by omega), o (x + 25) (by omega), o (x + 122 + 9) (by omega), o (x + 122 + 10) (by omega)]; exact e4
theorem JD.qs {x m E mo na len seen : Nat} {p : Nat → Nat} {I2 : xI} (hm : m = x + 122) (h : JD x m E mo na len seen p R L I) (he : Scr x I I2) : JD x m E mo na len seen p R L I2 :=
  h.cg hm (fun a ha _ _ _ _ => he a ha) (by rw [he m (by unfold scr; omega)]; exact KF.rf)
theorem JD.tri {x m E mo na len seen : Nat} {p : Nat → Nat} {Q : Nat → Int32} (hm : m = x + 122) (h : JD x m E mo na len seen p R L I) : JD x m E mo na len seen p R L (va_up I (m + 11) Q) :=
  h.cg hm (fun a _ _ _ _ h5 => va_up_n h5) (by rw [va_up_n (by omega)]; exact KF.rf)
theorem JD.trb {x m E mo na len seen : Nat} {p : Nat → Nat} {Q : Nat → Int32} {v : Int32} (hm : m = x + 122) (h : JD x m E mo na len seen p R L I) : JD x m E mo na len seen p R L (va_up (xst I m 23 v) (m + 11) Q) :=
  h.cg hm (fun a _ h1 _ _ h5 => by rw [va_up_n h5, xst_o h1]) (by rw [va_up_n (by omega), xst_s]; exact ⟨upd_n (by omega), upd_n (by omega), upd_n (by omega), upd_n (by omega), upd_n (by omega), upd_n (by omega)⟩)
theorem JD.rd {x m E mo na len seen : Nat} {p : Nat → Nat} {F' W' V' : Nat → Int32} (hm : m = x + 122) (h : JD x m E mo na len seen p R L I) (hk : KF (I m) F') : JD x m E mo na len seen p R L (rM I m F' W' V') :=
  h.cg hm (fun a _ h1 h2 h3 _ => rM_o h1 h2 h3) (by rw [rM_m]; exact hk)
-- ===== an act =====
theorem ntB_at {na i k : Nat} {B Q : Nat → Int32} (hna : na ≤ 14) (hi : i < rN na) (hk : k < 58) : ntB na B Q (58 * i + k) = if na < 14 then (if i < na then B (58 * i + k) else Q k) else (if i < 13 then B (58 * (i + 1) + k) else Q k) := by
  unfold ntB
  unfold rN at hi
  by_cases c : na < 14
  · rw [if_pos c] at hi
    rw [if_pos c, if_pos c]
    unfold cpA
    by_cases d : i < na
    · rw [if_pos d, if_neg (by omega)]
    · have : i = na := by omega
      subst this
      rw [if_neg d, if_pos (by omega), Nat.add_sub_cancel_left]
  · rw [if_neg c] at hi
    rw [if_neg c, if_neg c]
    unfold cpA
    by_cases d : i < 13
    · rw [if_pos d, if_neg (by omega)]
      unfold shB
      rw [if_pos (by omega)]
      congr 1
      omega
    · have : i = 13 := by omega
      subst this
      rw [if_neg d, if_pos (by omega), show 58 * 13 + k - 754 = k by omega]
theorem rN_le {na : Nat} (h : na ≤ 14) : rN na ≤ 14 := by unfold rN; split <;> omega
theorem ActP.hi {x na a : Nat} {p : Nat → Nat} {R2 : xR} {I2 : xI} {S : xS} (h : ActP x na p R I S R2 I2) (ha : x + 110 ≤ a) : I2 a = I a := by
  obtain ⟨p2, J, ⟨r1, r2, r3, r4, r5⟩, rfl⟩ := h
  rw [pm_o (by omega)]
  exact r4 a (by omega) (by omega)
theorem ActP.rr {x na : Nat} {p : Nat → Nat} {R2 : xR} {I2 : xI} {S : xS} (h : ActP x na p R I S R2 I2) : ∀ a, a ≠ x + 22 → R2 a = R a := by
  obtain ⟨p2, J, ⟨r1, r2, r3, r4, r5⟩, rfl⟩ := h
  exact r2
theorem JD.act {x m E mo na len seen : Nat} {p : Nat → Nat} {R2 : xR} {I2 : xI} {S' : xS} {Q : Nat → Int32} (hm : m = x + 122) (h : JD x m E mo na len seen p R L I) (hA : ActP x na p R I S' R2 I2) (hQ : PR mo S' Q) (hG : GB mo (I (m + 2)) S') (hV : GV mo (E + 1) S') (h5 : I m 4 = S'.1 5) :
    ∃ p2, JD x m (E + 1) mo (rN na) len seen p2 R2 L (va_up (nt m na I2) (m + 3) Q) := by
  subst hm
  have hA0 := hA
  obtain ⟨p2, J, ⟨r1, r2, r3, r4, r5⟩, hI2⟩ := hA
  obtain ⟨⟨a1, a2, a3⟩, ⟨b1, b2, b3, b4⟩, ⟨c1, c2, c3, c4, c5⟩, d, ⟨e1, e2, e3, e4⟩, f⟩ := h
  have hi : ∀ a, x + 110 ≤ a → I2 a = I a := fun a ha => hA0.hi ha
  have lo : ∀ a, a ≠ x → (a < x + 9 ∨ x + 15 ≤ a) → (a < x + 26 ∨ x + 110 ≤ a) → I2 a = I a := fun a h1 h2 h3 => by rw [hI2, pm_o (by omega)]; exact r4 a h1 h3
  have ex : I2 x = upd (I x) 7 (nI (rN na)) := by rw [hI2, pm_o (by omega)]; exact r3
  have n9 : mS I2 (x + 9) = S' := by rw [hI2]; exact mS_pm
  generalize hX3 : va_up (nt (x + 122) na I2) (x + 122 + 3) Q = I3
  have g3 : I3 (x + 122 + 3) = Q := by rw [← hX3, va_up_s]
  have gm : I3 (x + 122) = upd (I (x + 122)) 16 (nI (rN na)) := by rw [← hX3, va_up_n (by omega), nt_m, hi _ (by omega)]
  have g6 : I3 (x + 122 + 6) = ntB na (I (x + 122 + 6)) (I (x + 122 + 3)) := by rw [← hX3, va_up_n (by omega), nt_b, hi _ (by omega), hi _ (by omega)]
  have go : ∀ a, a ≠ x + 122 → a ≠ x + 122 + 3 → a ≠ x + 122 + 6 → I3 a = I2 a := fun a h1 h2 h3 => by rw [← hX3, va_up_n h2, nt_o h1 h3]
  have gx : I3 x = upd (I x) 7 (nI (rN na)) := (go x (by omega) (by omega) (by omega)).trans ex
  have gs : I3 (x + 122 + 2) = I (x + 122 + 2) := (go _ (by omega) (by omega) (by omega)).trans (hi _ (by omega))
  have n9' : mS I3 (x + 9) = S' := (mS_cg (fun j hj => go _ (by omega) (by omega) (by omega))).trans n9
  have n5 : I3 (x + 122) 4 = I (x + 122) 4 := by rw [gm, upd_n (by omega)]
  refine ⟨p2, ⟨by rw [gm, upd_n (by omega)]; exact a1, by rw [gm, upd_n (by omega)]; exact a2, ?_⟩, ⟨by rw [gx, upd_n (by omega)]; exact b1, by rw [gm, upd_n (by omega)]; exact b2, b3, ?_⟩, ⟨by rw [gx, upd_s], by rw [gm, upd_s], rN_le c3, r1, fun i hi2 => ?_⟩, fun s hs2 => ?_, ⟨by rw [gx, upd_n (by omega)]; exact e1, by rw [gm, upd_n (by omega)]; exact e2, e3, ?_⟩, f⟩
  · rw [gs, n5, n9', g3]; exact ⟨hG, hV, hQ, h5⟩
  · rw [go (x + 1) (by omega) (by omega) (by omega), lo (x + 1) (by omega) (by omega) (by omega), go (x + 122 + 1) (by omega) (by omega) (by omega), hi _ (by omega)]; exact b4
  · have hp2 := (r1.1 i (by have := rN_le c3; omega)).2
    have em : mS I3 (x + 26 + 6 * p2 i) = mS J (x + 26 + 6 * p2 i) := (mS_cg (fun j hj => go _ (by omega) (by omega) (by omega))).trans (by rw [hI2]; exact mS_pmo (by omega))
    rw [em, gs, n5, r5 i hi2, g6]
    have key : ∀ P : Nat → Int32, (∀ k, k < 58 → ntB na (I (x + 122 + 6)) (I (x + 122 + 3)) (58 * i + k) = P k) → ∀ S2, MW mo E (I (x + 122 + 2)) (I (x + 122) 4) S2 P → MW mo (E + 1) (I (x + 122 + 2)) (I (x + 122) 4) S2 (fun k => ntB na (I (x + 122 + 6)) (I (x + 122 + 3)) (58 * i + k)) := fun P hP S2 z => (z.cg hP).up (by omega)
    by_cases c : na < 14
    · rw [if_pos c]
      by_cases dd : i < na
      · rw [if_pos dd]
        exact key _ (fun k hk => by rw [ntB_at c3 hi2 hk, if_pos c, if_pos dd]) _ (c5 i dd)
      · rw [if_neg dd]
        exact key _ (fun k hk => by rw [ntB_at c3 hi2 hk, if_pos c, if_neg dd]) _ a3
    · rw [if_neg c]
      by_cases dd : i < 13
      · rw [if_pos dd]
        exact key _ (fun k hk => by rw [ntB_at c3 hi2 hk, if_neg c, if_pos dd]) _ (c5 (i + 1) (by omega))
      · rw [if_neg dd]
        exact key _ (fun k hk => by rw [ntB_at c3 hi2 hk, if_neg c, if_neg dd]) _ a3
  · rw [go (x + 122 + 8) (by omega) (by omega) (by omega), hi _ (by omega), gx, upd_n (by omega), gs, n5, go (x + 122 + 7) (by omega) (by omega) (by omega), hi _ (by omega), mS_cg (I2 := I3) (I := I) (h := x + 110 + 6 * s) (fun j hj => (go _ (by omega) (by omega) (by omega)).trans (hi _ (by omega)))]
    exact ⟨(d s hs2).1, fun z => ((d s hs2).2 z).up (by omega)⟩
  · rw [go (x + 24) (by omega) (by omega) (by omega), lo (x + 24) (by omega) (by omega) (by omega), go (x + 25) (by omega) (by omega) (by omega), lo (x + 25) (by omega) (by omega) (by omega), go (x + 122 + 9) (by omega) (by omega) (by omega), hi _ (by omega), go (x + 122 + 10) (by omega) (by omega) (by omega), hi _ (by omega)]
    exact e4
-- ===== what an act leaves: numbers =====
theorem GV.w3 {mo E c : Nat} {S : xS} {v : Int32} (h : GV mo E S) (hc : c < 12) (hf : hs (S.1 9) (nI c) = false) (hv : ∃ d, d ≤ 9 ∧ v = nI d) : GV mo E (S.1, S.2.1, S.2.2.1, upd S.2.2.2.1 c v, S.2.2.2.2.1, S.2.2.2.2.2) := by
  obtain ⟨g1, g2, g3, g4, g5, g6, g7, g8⟩ := h
  refine ⟨g1, g2, fun d hd => ?_, g4, g5, fun d hd z => ?_, g7, g8⟩
  · show ∃ q, q ≤ 9 ∧ upd S.2.2.2.1 c v d = nI q
    by_cases e : d = c
    · subst e; rw [upd_s]; exact hv
    · rw [upd_n e]; exact g3 d hd
  · have z : hs (S.1 9) (nI d) = true := z
    have e : d ≠ c := fun e => by rw [e, hf] at z; cases z
    refine ⟨(g6 d hd z).1, ?_⟩
    show upd S.2.2.2.1 c v d = nI 0
    rw [upd_n e]; exact (g6 d hd z).2
theorem GV.w2 {mo E c : Nat} {S : xS} {v : Int32} (h : GV mo E S) (hc : c < 12) (hv : ∃ d, d ≤ 99 ∧ v = nI d) (hf : hs (S.1 9) (nI c) = true → v = nI 0) : GV mo E (S.1, S.2.1, upd S.2.2.1 c v, S.2.2.2.1, S.2.2.2.2.1, S.2.2.2.2.2) := by
  obtain ⟨g1, g2, g3, g4, g5, g6, g7, g8⟩ := h
  refine ⟨g1, g2, g3, fun d hd => ?_, g5, fun d hd z => ⟨?_, (g6 d hd z).2⟩, g7, g8⟩
  · show ∃ q, q ≤ 99 ∧ upd S.2.2.1 c v d = nI q
    by_cases e : d = c
    · subst e; rw [upd_s]; exact hv
    · rw [upd_n e]; exact g4 d hd
  · have z : hs (S.1 9) (nI d) = true := z
    show upd S.2.2.1 c v d = nI 0
    by_cases e : d = c
    · subst e; rw [upd_s]; exact hf z
    · rw [upd_n e]; exact (g6 d hd z).1
theorem GV.w5 {mo E : Nat} {S : xS} {w : Nat → Int32} (h : GV mo E S) : GV mo E (S.1, S.2.1, S.2.2.1, S.2.2.2.1, S.2.2.2.2.1, w) := h
theorem GB.w5 {mo j d : Nat} {se : Nat → Int32} {S : xS} (h : GB mo se S) (hd : d < 12) : GB mo se (S.1, S.2.1, S.2.2.1, S.2.2.2.1, S.2.2.2.2.1, upd S.2.2.2.2.2 j (nI d)) := ⟨⟨h.1.1, h.1.2.1, WP.up h.1.2.2 hd⟩, h.2⟩
end XJA
