/-! THE TWO SIDES: a prayer, a day, all pray -/
section XRC
theorem fN_at {q t : Int32} {P : Nat → Int32} {d : Nat} : ∀ n, n ≤ 12 → fN q t P n (12 + d) = if d < n ∧ (aN q (nI d) = true ∧ hs (P 48) (nI d) = false) then m99 (P (12 + d) + t) else P (12 + d) := by
  intro n
  induction n with
  | zero => intro _; rw [fN, if_neg (fun y => absurd y.1 (by omega))]
  | succ n ih =>
    intro hn
    have r := ih (by omega)
    by_cases z : aN q (nI n) = true
    · by_cases e : d = n
      · subst e
        rw [if_neg (fun y => absurd y.1 (by omega))] at r
        rw [fN_t z, pLo_at, fN_o (k := 48) (by omega) d (by omega), r]
        exact if_cg ⟨fun y => ⟨by omega, z, y.2⟩, fun y => ⟨rfl, y.2.2⟩⟩
      · rw [fN_t z, pLo_at, fN_o (k := 48) (by omega) n (by omega), r, if_neg (fun y => e y.1)]
        exact if_cg (ltA_s e)
    · rw [fN, if_neg z, r]
      by_cases e : d = n
      · subst e
        rw [if_neg (fun y => absurd y.1 (by omega)), if_neg (fun y => z y.2.1)]
      · exact if_cg (ltA_s e)
theorem pLb_o {P : Nat → Int32} {c k : Nat} {t : Int32} (hc : c < 12) (h : k < 12 ∨ 24 ≤ k) : pLb P c t k = P k := by
  unfold pLb
  rw [fN_o h 12 (Nat.le_refl _), pLo_o (by omega)]
theorem PR.lb {mo : Nat} {se : Nat → Int32} {S : xS} {P : Nat → Int32} (hB : GB mo se S) (hp : PR mo S P) {mi : Nat} (hmi : mi < mo) : PR mo (gLb mo S mi) (pEc (pLb P (plN S.2.2.2.2.2 mi) (vForce mo S.1 S.2.2.2.2.2 mi)) (plN S.2.2.2.2.2 mi)) := by
  obtain ⟨p1, p2, p3, p4, p5, p6, p7, p8, p9⟩ := hp
  have hc := (hB.1.2.2 mi hmi).2
  have hm4 := hB.1.2.1
  generalize e : plN S.2.2.2.2.2 mi = c at hc ⊢
  generalize et : vForce mo S.1 S.2.2.2.2.2 mi = t
  have o : ∀ k, (k < 12 ∨ 24 ≤ k) → k ≠ 36 + c → pEc (pLb P c t) c k = P k := fun k h h2 => by
    unfold pEc
    rw [upd_n h2, pLb_o hc h]
  refine ⟨fun d hd => ?_, fun d hd => ?_, fun d hd => ?_, fun d hd => ?_, fun j hj => ?_, ?_, ?_, ?_, ?_⟩
  · rw [o d (by omega) (by omega), p1 d hd]; rfl
  · have g : (gLb mo S mi).2.2.1 d = lsn (xnear c &&& (S.1 9 ^^^ (-1))) t (lsn ((nI 1 <<< (nI c &&& 31)) &&& (S.1 9 ^^^ (-1))) (nI 2 * t) S.2.2.1 12) 12 d := by
      show lsn _ _ _ 12 d = _
      rw [e, et]
    rw [g, lsn_at hd, lsn_at hd, hs_and (by omega), hs_and (by omega), hs_not (by omega), hs_one (by omega) (by omega)]
    unfold pEc
    rw [upd_n (by omega)]
    unfold pLb
    rw [fN_at 12 (Nat.le_refl _), pLo_at, pLo_o (by omega), p2 d hd, p6, aN_near c hc d hd]
    have i1 : (if d = c ∧ hs (S.1 9) (nI c) = false then m99 (S.2.2.1 d + nI 2 * t) else S.2.2.1 d) = if (decide (d = c) && !hs (S.1 9) (nI d)) = true then m99 (S.2.2.1 d + nI 2 * t) else S.2.2.1 d := by
      refine if_cg ⟨fun y => ?_, fun y => ?_⟩
      · obtain ⟨rfl, y2⟩ := y
        rw [y2]; simp
      · simp only [Bool.and_eq_true, decide_eq_true_eq, Bool.not_eq_true'] at y
        obtain ⟨rfl, y2⟩ := y
        exact ⟨rfl, y2⟩
    rw [i1]
    refine if_cg ⟨fun y => ?_, fun y => ?_⟩
    · rw [y.2.1, y.2.2]; rfl
    · simp only [Bool.and_eq_true, Bool.not_eq_true'] at y
      exact ⟨hd, y.1, y.2⟩
  · rw [o (24 + d) (by omega) (by omega), p3 d hd]; rfl
  · have g : (gLb mo S mi).2.2.2.2.1 d = (if hs (S.1 9) (nI c) = true then S.2.2.2.2.1 else upd S.2.2.2.2.1 c (S.2.2.2.2.1 c + nI 1)) d := by
      show (if hs (S.1 9) (nI (plN S.2.2.2.2.2 mi)) = true then S.2.2.2.2.1 else upd S.2.2.2.2.1 (plN S.2.2.2.2.2 mi) (S.2.2.2.2.1 (plN S.2.2.2.2.2 mi) + nI 1)) d = _
      rw [e]
    rw [g]
    unfold pEc
    rw [pLb_o hc (by omega), pLb_o hc (by omega), p4 c hc, p6]
    by_cases f : hs (S.1 9) (nI c) = true
    · rw [if_pos f, if_pos f]
      by_cases ed : d = c
      · subst ed
        rw [upd_s, nI_0]; exact Int32.add_zero _
      · rw [upd_n (by omega), pLb_o hc (by omega), p4 d hd]
    · rw [if_neg f, if_neg f]
      by_cases ed : d = c
      · subst ed
        rw [upd_s, upd_s]
      · rw [upd_n (by omega), upd_n ed, pLb_o hc (by omega), p4 d hd]
  · rw [o (49 + j) (by omega) (by omega), p5 j hj]; rfl
  · rw [o 48 (by omega) (by omega), p6]; rfl
  · rw [o 53 (by omega) (by omega), p7]; rfl
  · rw [o 54 (by omega) (by omega), p8]; rfl
  · rw [o 55 (by omega) (by omega), p9]; rfl
theorem GV.lb {mo E : Nat} {S : xS} (hV : GV mo E S) (mi : Nat) : GV mo (E + 1) (gLb mo S mi) ∧ tkS (gLb mo S mi) = tkS S := by
  obtain ⟨a1, a2, a3, a4, a5, a6, a7, a8⟩ := hV
  obtain ⟨t, ht, et⟩ := vForce_N (mo := mo) (mi := mi) (f := S.1) (w5 := S.2.2.2.2.2)
  refine ⟨⟨a1, a2, a3, ?_, fun c hc => ?_, fun c hc h => ⟨?_, (a6 c hc h).2⟩, a7, a8⟩, rfl⟩
  · exact lsn_N et (by omega) (lsn_N (b' := 2 * t) (by rw [et, pk_mul]) (by omega) a4)
  · obtain ⟨d, hd, e⟩ := a5 c hc
    show ∃ d, d ≤ E + 1 ∧ (if hs (S.1 9) (nI (plN S.2.2.2.2.2 mi)) = true then S.2.2.2.2.1 else upd S.2.2.2.2.1 (plN S.2.2.2.2.2 mi) (S.2.2.2.2.1 (plN S.2.2.2.2.2 mi) + nI 1)) c = nI d
    by_cases f : hs (S.1 9) (nI (plN S.2.2.2.2.2 mi)) = true
    · rw [if_pos f]; exact ⟨d, by omega, e⟩
    · rw [if_neg f]
      by_cases ec : c = plN S.2.2.2.2.2 mi
      · rw [ec, upd_s, ← ec, e, nI_add]; exact ⟨d + 1, by omega, rfl⟩
      · rw [upd_n ec]; exact ⟨d, by omega, e⟩
  · have h : hs (S.1 9) (nI c) = true := h
    show lsn _ _ (lsn _ _ S.2.2.1 12) 12 c = nI 0
    rw [lsn_off (by rw [hs_and (by omega), hs_not (by omega), h]; simp), lsn_off (by rw [hs_and (by omega), hs_not (by omega), h]; simp)]
    exact (a6 c hc h).1
/-- a prayer, on both sides -/
theorem PR.pray {mo E : Nat} {se : Nat → Int32} {S : xS} {P : Nat → Int32} (hB : GB mo se S) (hV : GV mo E S) (hp : PR mo S P) {mi : Nat} (hmi : mi < mo) (hl : hs (S.1 8) (nI mi) = false) :
    PR mo (gPr mo S mi) (pGo (S.1 5) mo se P mi (plN S.2.2.2.2.2 mi)).1 ∧ GV mo (E + 1) (gPr mo S mi) ∧ (pGo (S.1 5) mo se P mi (plN S.2.2.2.2.2 mi)).2 = vPr mo S mi ∧ tkS S ≤ tkS (gPr mo S mi) := by
  unfold pGo
  rw [pTm_force hB hp hmi hl]
  obtain ⟨v, e⟩ := hV.lb mi
  have q := fl_rel (hB.keep (keep_lb mo S mi)) v (hp.lb hB hmi)
  exact ⟨q.1, q.2.1, q.2.2.1, by rw [← e]; exact q.2.2.2⟩
-- ===== a day =====
theorem vEd_at {f w4 w2 : Nat → Int32} {d : Nat} (hd : d < 12) : ∀ n, n ≤ 12 → vEd f w4 w2 n d = if d < n ∧ hs (f 9) (nI d) = false then m99 (w2 d + w4 d) else w2 d := by
  intro n
  induction n with
  | zero => intro _; rw [vEd, if_neg (fun y => absurd y.1 (by omega))]
  | succ n ih =>
    intro hn
    have r := ih (by omega)
    rw [vEd, lsn_at hd, hs_and (by omega), hs_not (by omega), hs_one (by omega) (by omega), r]
    by_cases e : d = n
    · subst e
      rw [if_neg (c := d < d ∧ hs (f 9) (nI d) = false) (fun y => absurd y.1 (by omega))]
      refine if_cg ⟨fun y => ?_, fun y => ?_⟩
      · simp only [Bool.and_eq_true, Bool.not_eq_true'] at y
        exact ⟨by omega, y.2⟩
      · rw [y.2]; simp
    · rw [decide_eq_false e, Bool.false_and, if_neg (by decide)]
      exact if_cg (ltA_s e)
theorem fD_o {P : Nat → Int32} {k : Nat} (h : k < 12 ∨ (24 ≤ k ∧ k < 36) ∨ 48 ≤ k) : ∀ n, n ≤ 12 → fD P n k = P k := by
  intro n
  induction n with
  | zero => intro _; rfl
  | succ n ih =>
    intro hn
    rw [fD, upd_n (by omega), pLo_o (by omega), ih (by omega)]
theorem fD_e {P : Nat → Int32} {k : Nat} (hk : k < 12) : ∀ n, n ≤ 12 → fD P n (36 + k) = if k < n then nI 0 else P (36 + k) := by
  intro n
  induction n with
  | zero => intro _; rw [fD, if_neg (by omega)]
  | succ n ih =>
    intro hn
    rw [fD]
    by_cases e : k = n
    · subst e; rw [upd_s, if_pos (by omega)]
    · rw [upd_n (by omega), pLo_o (by omega), ih (by omega)]
      exact if_cg (by omega)
theorem fD_at {P : Nat → Int32} {d : Nat} (hd : d < 12) : ∀ n, n ≤ 12 → fD P n (12 + d) = if d < n ∧ hs (P 48) (nI d) = false then m99 (P (12 + d) + P (36 + d)) else P (12 + d) := by
  intro n
  induction n with
  | zero => intro _; rw [fD, if_neg (fun y => absurd y.1 (by omega))]
  | succ n ih =>
    intro hn
    have r := ih (by omega)
    rw [fD, upd_n (by omega), pLo_at, fD_o (k := 48) (by omega) n (by omega), fD_e (by omega) n (by omega), if_neg (c := n < n) (by omega)]
    by_cases e : d = n
    · subst e
      rw [if_neg (fun y => absurd y.1 (by omega))] at r
      rw [r]
      exact if_cg ⟨fun y => ⟨by omega, y.2⟩, fun y => ⟨rfl, y.2⟩⟩
    · rw [if_neg (fun y => e y.1), r]
      exact if_cg (ltA_s e)
def gDo (S : xS) : xS := (upd S.1 11 (S.1 11 + nI 1), S.2.1, vEd S.1 S.2.2.2.2.1 S.2.2.1 12, S.2.2.2.1, zr S.2.2.2.2.1 12, S.2.2.2.2.2)
theorem PR.dawn {mo : Nat} {S : xS} {P : Nat → Int32} (hm4 : mo ≤ 4) (hp : PR mo S P) : PR mo (gDo S) (fD (upd P 55 (P 55 + nI 1)) 12) := by
  obtain ⟨p1, p2, p3, p4, p5, p6, p7, p8, p9⟩ := hp
  refine ⟨fun d hd => ?_, fun d hd => ?_, fun d hd => ?_, fun d hd => ?_, fun j hj => ?_, ?_, ?_, ?_, ?_⟩
  · rw [fD_o (by omega) 12 (Nat.le_refl _), upd_n (by omega), p1 d hd]; rfl
  · show _ = vEd S.1 S.2.2.2.2.1 S.2.2.1 12 d
    rw [fD_at hd 12 (Nat.le_refl _), vEd_at hd 12 (Nat.le_refl _), upd_n (by omega), upd_n (by omega), upd_n (by omega), p2 d hd, p4 d hd, p6]
  · rw [fD_o (by omega) 12 (Nat.le_refl _), upd_n (by omega), p3 d hd]; rfl
  · rw [fD_e hd 12 (Nat.le_refl _), if_pos hd]
    show _ = zr S.2.2.2.2.1 12 d
    unfold zr
    rw [if_pos hd]
  · rw [fD_o (by omega) 12 (Nat.le_refl _), upd_n (by omega), p5 j hj]; rfl
  · rw [fD_o (by omega) 12 (Nat.le_refl _), upd_n (by omega), p6]; rfl
  · rw [fD_o (by omega) 12 (Nat.le_refl _), upd_n (by omega), p7]; rfl
  · rw [fD_o (by omega) 12 (Nat.le_refl _), upd_n (by omega), p8]; rfl
  · rw [fD_o (by omega) 12 (Nat.le_refl _), upd_s, p9]; rfl
theorem GV.dawn {mo E : Nat} {S : xS} (hV : GV mo E S) (hE : E < 2 ^ 30) : GV mo 0 (gDo S) := by
  obtain ⟨a1, a2, a3, a4, a5, a6, a7, a8⟩ := hV
  refine ⟨a1, a2, a3, fun c hc => ?_, fun c hc => ⟨0, Nat.le_refl _, ?_⟩, fun c hc h => ⟨?_, (a6 c hc h).2⟩, a7, a8⟩
  · show ∃ d, d ≤ 99 ∧ vEd S.1 S.2.2.2.2.1 S.2.2.1 12 c = nI d
    rw [vEd_at hc 12 (Nat.le_refl _)]
    obtain ⟨d, hd, e⟩ := a4 c hc
    obtain ⟨d2, hd2, e2⟩ := a5 c hc
    split
    · rw [e, e2]; exact m99_N hd (by omega)
    · exact ⟨d, hd, e⟩
  · show zr S.2.2.2.2.1 12 c = nI 0
    unfold zr
    rw [if_pos hc]
  · have h : hs (S.1 9) (nI c) = true := h
    show vEd S.1 S.2.2.2.2.1 S.2.2.1 12 c = nI 0
    rw [vEd_at hc 12 (Nat.le_refl _), if_neg (fun y => bl_t h y.2)]
    exact (a6 c hc h).1
/-- a day, on both sides -/
theorem PR.day {mo E : Nat} {se : Nat → Int32} {S : xS} {P : Nat → Int32} (hB : GB mo se S) (hV : GV mo E S) (hp : PR mo S P) (hE : E < 2 ^ 30) :
    PR mo (gEd mo S) (pDy (S.1 5) mo P).1 ∧ GV mo 0 (gEd mo S) ∧ (pDy (S.1 5) mo P).2 = vEdv mo S ∧ tkS S ≤ tkS (gEd mo S) :=
  fl_rel (S := gDo S) (hB.keep (S' := gDo S) ⟨rfl, rfl, rfl, rfl⟩) (hV.dawn hE) (hp.dawn hB.1.2.1)
/-- all of a set pray: what holds of the class's side -/
theorem bLiv_N2 {mo : Nat} {se : Nat → Int32} {S : xS} (hB : GB mo se S) {k : Nat} (hk : k < 32) : bLiv S.1 (nI k) = (decide (k < mo) && !hs (S.1 8) (nI k)) := by
  rw [bLiv_hs hB.1.1 hB.1.2.1 hk, hs_liv hB.1.1 hB.1.2.1 hk]
theorem gPa_4 {mo : Nat} {se : Nat → Int32} {S : xS} {set : Int32} (hB : GB mo se S) : ∀ n, mo ≤ n → n ≤ 4 → gPa mo set S n = gPa mo set S mo := by
  intro n
  induction n with
  | zero => intro h _; obtain rfl : mo = 0 := by omega
            rfl
  | succ n ih =>
    intro h h4
    by_cases e : mo = n + 1
    · rw [e]
    · rw [gPa_f (Or.inr ?_), ih (by omega) (by omega)]
      rw [bLiv_N2 (hB.keep (keep_pa mo set S n)) (by omega), decide_eq_false (by omega)]
      rfl
end XRC
