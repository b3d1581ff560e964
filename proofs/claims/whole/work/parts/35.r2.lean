/-! THE TWO SIDES: waves, prayers, days -/
section XRB
theorem zd_N {due : Int32} {w : Nat → Int32} {B : Nat} (h : ∀ c, c < 12 → ∃ d, d ≤ B ∧ w c = nI d) : ∀ c, c < 12 → ∃ d, d ≤ B ∧ zd due w 12 c = nI d := fun c hc => by
  unfold zd
  split
  · exact ⟨0, Nat.zero_le _, rfl⟩
  · exact h c hc
theorem lsn_N {o b : Int32} {w : Nat → Int32} {b' : Nat} (hb : b = nI b') (hb2 : b' < 2 ^ 30) (h : ∀ c, c < 12 → ∃ d, d ≤ 99 ∧ w c = nI d) : ∀ c, c < 12 → ∃ d, d ≤ 99 ∧ lsn o b w 12 c = nI d := fun c hc => by
  unfold lsn
  split
  · obtain ⟨d, hd, e⟩ := h c hc
    rw [e, hb]
    exact m99_N hd hb2
  · exact h c hc
theorem vBl_N {due fal : Int32} {w2 : Nat → Int32} (h : ∀ c, c < 12 → ∃ d, d ≤ 99 ∧ w2 c = nI d) : ∀ n, ∀ c, c < 12 → ∃ d, d ≤ 99 ∧ vBl due fal w2 n c = nI d := by
  intro n
  induction n with
  | zero => exact h
  | succ n ih =>
    cases z : hs due (nI n)
    · rw [vBl_f z]; exact ih
    · rw [vBl_t z]
      refine lsn_N (b' := 1) rfl (by decide) (fun c hc => ?_)
      by_cases e : c = n
      · subst e; exact ⟨0, by omega, upd_s⟩
      · rw [upd_n e]; exact ih c hc
theorem lsn_off {o b : Int32} {w : Nat → Int32} {n d : Nat} (h : hs o (nI d) = false) : lsn o b w n d = w d := by unfold lsn; rw [if_neg (fun y => bl_f h y.2)]
theorem lsn_at {o b : Int32} {w : Nat → Int32} {d : Nat} (hd : d < 12) : lsn o b w 12 d = if hs o (nI d) = true then m99 (w d + b) else w d := if_cg ⟨fun y => y.2, fun y => ⟨hd, y⟩⟩
theorem vBl_fal {due fal : Int32} {w2 : Nat → Int32} {d : Nat} (hd : d < 12) (h : hs fal (nI d) = true) : ∀ n, n ≤ 12 → vBl due fal w2 n d = if d < n ∧ hs due (nI d) = true then nI 0 else w2 d := by
  intro n
  induction n with
  | zero => intro _; rw [vBl, if_neg (fun y => absurd y.1 (by omega))]
  | succ n ih =>
    intro hn
    have q := ih (by omega)
    cases z : hs due (nI n)
    · rw [vBl_f z, q]
      by_cases e : d = n
      · subst e
        rw [if_neg (fun y => absurd y.1 (by omega)), if_neg (fun y => bl_f z y.2)]
      · exact if_cg (ltA_s e)
    · rw [vBl_t z, lsn_off (by rw [hs_and (by omega), hs_not (by omega), h]; simp)]
      by_cases e : d = n
      · subst e
        rw [upd_s, if_pos ⟨by omega, z⟩]
      · rw [upd_n e, q]
        exact if_cg (ltA_s e)
theorem vTk_oS {due : Int32} {w1 : Nat → Int32} {t : Nat} (h : ∀ c, c < 12 → ∃ d, d ≤ 9 ∧ w1 c = nI d) : ∀ n, n ≤ 12 → ∃ u, vTk due w1 (nI t) n = nI (t + u) ∧ u + oS (zd due w1 12) n = oS w1 n := by
  intro n
  induction n with
  | zero => intro _; exact ⟨0, rfl, rfl⟩
  | succ n ih =>
    intro hn
    obtain ⟨u, hu, ho⟩ := ih (by omega)
    obtain ⟨d, hd, e⟩ := h n (by omega)
    cases z : hs due (nI n)
    · have e2 : zd due w1 12 n = w1 n := by unfold zd; rw [if_neg (fun y => bl_f z y.2)]
      refine ⟨u, by rw [vTk_f z, hu], ?_⟩
      show u + (oS (zd due w1 12) n + (zd due w1 12 n).toNatClampNeg) = oS w1 n + (w1 n).toNatClampNeg
      rw [e2]; omega
    · have e2 : zd due w1 12 n = nI 0 := by unfold zd; rw [if_pos ⟨by omega, z⟩]
      refine ⟨u + d, by rw [vTk_t z, hu, e, nI_add, Nat.add_assoc], ?_⟩
      show u + d + (oS (zd due w1 12) n + (zd due w1 12 n).toNatClampNeg) = oS w1 n + (w1 n).toNatClampNeg
      rw [e2, e, nI_clamp (by omega), nI_clamp (by omega)]; omega
theorem GV.fell {mo E : Nat} {se : Nat → Int32} {S : xS} (hB : GB mo se S) (hV : GV mo E S) : GV mo E (gFell mo S (gDue S)) ∧ tkS S ≤ tkS (gFell mo S (gDue S)) := by
  have hd := due_ok hB hV
  obtain ⟨a1, a2, a3, a4, a5, a6, a7, t, ht, hl⟩ := hV
  obtain ⟨u, hu, ho⟩ := vTk_oS (due := gDue S) (t := t) a7 12 (Nat.le_refl _)
  have e10 : (gFell mo S (gDue S)).1 10 = nI (t + u) := by
    show vTk (gDue S) S.2.1 (S.1 10) 12 = _
    rw [ht, hu]
  refine ⟨⟨fun k h1 h2 => ?_, fun k h1 h2 => ?_, zd_N a3, vBl_N a4 12, zd_N a5, fun c hc h => ?_, zd_N a7, t + u, e10, ?_⟩, ?_⟩
  · show hs (S.1 9 ||| gDue S) (nI k) = false
    rw [hs_or h2, a1 k h1 h2, Bool.false_or]
    cases z : hs (gDue S) (nI k)
    · rfl
    · exact absurd (hd k h2 z).1 (by omega)
  · show hs (S.1 8 ||| vOn S.2.2.2.2.2 (gDue S) mo) (nI k) = false
    rw [hs_or h2, a2 k h1 h2, hs_vOn mo hB.1.2.1 k h2, decide_eq_false (by omega)]
    rfl
  · have h : hs (S.1 9 ||| gDue S) (nI c) = true := h
    have h2 := h
    rw [hs_or (by omega)] at h
    show vBl (gDue S) (S.1 9 ||| gDue S) S.2.2.1 12 c = nI 0 ∧ zd (gDue S) S.2.2.2.1 12 c = nI 0
    rw [vBl_fal hc h2 12 (Nat.le_refl _)]
    unfold zd
    cases z : hs (gDue S) (nI c)
    · rw [z, Bool.or_false] at h
      rw [if_neg (fun y => absurd y.2 (by decide)), if_neg (fun y => absurd y.2 (by decide))]
      exact a6 c hc h
    · rw [if_pos ⟨hc, rfl⟩, if_pos ⟨hc, rfl⟩]
      exact ⟨rfl, rfl⟩
  · show t + u + oS (zd (gDue S) S.2.1 12) 12 ≤ 108
    omega
  · unfold tkS
    rw [e10, ht, nI_clamp (by omega), nI_clamp (by omega)]
    omega
theorem pFl_fuel {ho : Int32} {mo : Nat} : ∀ n (P : Nat → Int32) (al : Int32), mis (P 48) 12 ≤ n → pFl ho mo (n + 1) P al = pFl ho mo n P al := by
  intro n
  induction n with
  | zero =>
    intro P al h
    have c : pDu ho P 12 = 0 := Classical.byContradiction fun c => by
      have := mis_W (mo := mo) c
      omega
    show ite (pDu ho P 12 = 0) (P, al) (pFl ho mo 0 (pW mo (pDu ho P 12) P) (al ||| pDu ho P 12)) = (P, al)
    rw [if_pos c]
  | succ n ih =>
    intro P al h
    show ite (pDu ho P 12 = 0) (P, al) (pFl ho mo (n + 1) (pW mo (pDu ho P 12) P) (al ||| pDu ho P 12)) = ite (pDu ho P 12 = 0) (P, al) (pFl ho mo n (pW mo (pDu ho P 12) P) (al ||| pDu ho P 12))
    by_cases c : pDu ho P 12 = 0
    · rw [if_pos c, if_pos c]
    · rw [if_neg c, if_neg c]
      exact ih _ _ (by have := mis_W (mo := mo) c; omega)
theorem pFl_13 {ho : Int32} {mo : Nat} {P : Nat → Int32} {al : Int32} : pFl ho mo 13 P al = pFl ho mo 12 P al := pFl_fuel 12 P al (mis_12 _ 12)
theorem wv_rel {mo E : Nat} {se : Nat → Int32} : ∀ n (S : xS) (P : Nat → Int32) (al : Int32), GB mo se S → GV mo E S → PR mo S P → PR mo (wv mo n S) (pFl (S.1 5) mo n P al).1 ∧ GV mo E (wv mo n S) ∧
    (∀ k, k < 32 → hs (S.1 9) (nI k) = true → hs ((wv mo n S).1 9) (nI k) = true) ∧
    (∀ k, k < 32 → hs (pFl (S.1 5) mo n P al).2 (nI k) = (hs al (nI k) || (hs ((wv mo n S).1 9) (nI k) && !hs (S.1 9) (nI k)))) ∧ tkS S ≤ tkS (wv mo n S) := by
  have z : ∀ (S : xS) (P : Nat → Int32) (al : Int32), GV mo E S → PR mo S P → PR mo S P ∧ GV mo E S ∧ (∀ k, k < 32 → hs (S.1 9) (nI k) = true → hs (S.1 9) (nI k) = true) ∧
      (∀ k, k < 32 → hs al (nI k) = (hs al (nI k) || (hs (S.1 9) (nI k) && !hs (S.1 9) (nI k)))) ∧ tkS S ≤ tkS S := fun S P al hV hp =>
    ⟨hp, hV, fun _ _ h => h, fun k _ => by cases hs (S.1 9) (nI k) <;> simp, Nat.le_refl _⟩
  intro n
  induction n with
  | zero => intro S P al _ hV hp; exact z S P al hV hp
  | succ n ih =>
    intro S P al hB hV hp
    have hde := due_eq hB hV hp
    by_cases c : gDue S = 0
    · have e1 : wv mo (n + 1) S = S := wv_z c
      have e2 : pFl (S.1 5) mo (n + 1) P al = (P, al) := by rw [pFl, if_pos (by rw [hde]; exact c)]
      rw [e1, e2]
      exact z S P al hV hp
    · have e1 : wv mo (n + 1) S = wv mo n (gFell mo S (gDue S)) := by rw [wv, if_neg c]
      have e2 : pFl (S.1 5) mo (n + 1) P al = pFl (S.1 5) mo n (pW mo (gDue S) P) (al ||| gDue S) := by rw [pFl, if_neg (by rw [hde]; exact c), hde]
      obtain ⟨v1, v2⟩ := GV.fell hB hV
      obtain ⟨r1, r2, r3, r4, r5⟩ := ih (gFell mo S (gDue S)) (pW mo (gDue S) P) (al ||| gDue S) (hB.keep (keep_fell mo S _)) v1 (hp.fell hB.1 (due_ok hB hV))
      rw [e1, e2]
      have f9 : ∀ k, k < 32 → hs ((gFell mo S (gDue S)).1 9) (nI k) = (hs (S.1 9) (nI k) || hs (gDue S) (nI k)) := fun k hk => hs_or hk
      refine ⟨r1, r2, fun k hk h => r3 k hk (by rw [f9 k hk, h, Bool.true_or]), fun k hk => ?_, Nat.le_trans v2 r5⟩
      have q := r4 k hk
      rw [hs_or hk, f9 k hk] at q
      have q3 := r3 k hk
      rw [f9 k hk] at q3
      have hdd := due_ok hB hV k hk
      refine q.trans ?_
      revert q3 hdd
      cases hs al (nI k) <;> cases hs (gDue S) (nI k) <;> cases hs (S.1 9) (nI k) <;> cases hs ((wv mo n (gFell mo S (gDue S))).1 9) (nI k) <;> simp
theorem fl_rel {mo E : Nat} {se : Nat → Int32} {S : xS} {P : Nat → Int32} (hB : GB mo se S) (hV : GV mo E S) (hp : PR mo S P) : PR mo (wv mo 12 S) (pFl (S.1 5) mo 13 P (nI 0)).1 ∧ GV mo E (wv mo 12 S) ∧
    (pFl (S.1 5) mo 13 P (nI 0)).2 = (wv mo 12 S).1 9 &&& (S.1 9 ^^^ (-1)) ∧ tkS S ≤ tkS (wv mo 12 S) := by
  rw [pFl_13]
  obtain ⟨r1, r2, r3, r4, r5⟩ := wv_rel 12 S P (nI 0) hB hV hp
  refine ⟨r1, r2, hs_ext fun k hk => ?_, r5⟩
  rw [r4 k hk, hs_z hk, hs_and hk, hs_not hk, Bool.false_or]
-- ===== how strong a prayer is =====
theorem aN_sym : ∀ c, c < 12 → ∀ d, d < 12 → aN (nI c) (nI d) = hs (xnear d) (nI c) := by decide +kernel
/-- another monk near makes a prayer stronger -/
def pC (P se : Nat → Int32) (mi k : Nat) : Prop := hs (P 53) (nI k) = false ∧ ¬ se k = se mi ∧ (P (49 + k) = P (49 + mi) ∨ aN (P (49 + k)) (P (49 + mi)) = true)
theorem pTm_2 {P se : Nat → Int32} {mi k : Nat} (hC : pC P se mi k) : ∀ n, k < n → pTm P se mi n = nI 2 := by
  intro n
  induction n with
  | zero => intro h; exact absurd h (by omega)
  | succ n ih =>
    intro h
    by_cases c : pC P se mi n
    · exact pTm_t c.1 c.2.1 c.2.2
    · have : k ≠ n := fun e => c (e ▸ hC)
      rw [pTm_f c]
      exact ih (by omega)
theorem pTm_1 {P se : Nat → Int32} {mi : Nat} : ∀ n, (∀ k, k < n → ¬ pC P se mi k) → pTm P se mi n = nI 1 := by
  intro n
  induction n with
  | zero => intro _; rfl
  | succ n ih =>
    intro h
    rw [pTm_f (h n (by omega))]
    exact ih (fun k hk => h k (by omega))
theorem liv_hs {mo E : Nat} {se : Nat → Int32} {S : xS} (hB : GB mo se S) {k : Nat} (hk : k < 32) : hs (vLiv S.1) (nI k) = (decide (k < mo) && !hs (S.1 8) (nI k)) := hs_liv hB.1.1 hB.1.2.1 hk
theorem force_bit {mo : Nat} {se : Nat → Int32} {S : xS} {P : Nat → Int32} (hB : GB mo se S) (hp : PR mo S P) {mi : Nat} (hmi : mi < mo) {k : Nat} (hk : k < 32) :
    hs (vOn S.2.2.2.2.2 ((nI 1 <<< (nI (plN S.2.2.2.2.2 mi) &&& 31)) ||| xnear (plN S.2.2.2.2.2 mi)) mo &&& (if hs (S.1 7) (nI mi) = true then S.1 7 ^^^ (-1) else S.1 7) &&& vLiv S.1) (nI k) = true ↔ k < mo ∧ pC P se mi k := by
  obtain ⟨p1, p2, p3, p4, p5, p6, p7, p8, p9⟩ := hp
  have hm4 := hB.1.2.1
  rw [hs_and hk, hs_and hk, hs_vOn mo hm4 k hk, hs_liv hB.1.1 hm4 hk]
  by_cases h : k < mo
  · obtain ⟨w1, w2⟩ := hB.1.2.2 k h
    obtain ⟨v1, v2⟩ := hB.1.2.2 mi hmi
    have o : hs (if hs (S.1 7) (nI mi) = true then S.1 7 ^^^ (-1) else S.1 7) (nI k) = !decide (se k = se mi) := by
      obtain ⟨a1, a2⟩ := hB.2.2 k h
      obtain ⟨b1, b2⟩ := hB.2.2 mi hmi
      have t : hs (if hs (S.1 7) (nI mi) = true then S.1 7 ^^^ (-1) else S.1 7) (nI k) = (hs (S.1 7) (nI mi) ^^ hs (S.1 7) (nI k)) := by
        cases z : hs (S.1 7) (nI mi)
        · rw [if_neg (by decide)]; simp
        · rw [if_pos rfl, hs_not hk]; simp
      rw [t, a2, b2]
      rcases a1 with a1 | a1 <;> rcases b1 with b1 | b1 <;> rw [a1, b1] <;> decide
    have e1 : decide (P (49 + k) = P (49 + mi)) = decide (plN S.2.2.2.2.2 k = plN S.2.2.2.2.2 mi) := by
      rw [p5 k h, p5 mi hmi, w1, v1]
      exact decide_eq_decide.mpr (nI_eq (by omega) (by omega))
    have e2 : aN (P (49 + k)) (P (49 + mi)) = hs (xnear (plN S.2.2.2.2.2 mi)) (nI (plN S.2.2.2.2.2 k)) := by
      rw [p5 k h, p5 mi hmi, w1, v1]
      exact aN_sym _ w2 _ v2
    have e3 : hs ((nI 1 <<< (nI (plN S.2.2.2.2.2 mi) &&& 31)) ||| xnear (plN S.2.2.2.2.2 mi)) (S.2.2.2.2.2 k) = (decide (P (49 + k) = P (49 + mi)) || aN (P (49 + k)) (P (49 + mi))) := by
      rw [e1, e2, w1, hs_or (by omega), hs_one (by omega) (by omega)]
    rw [e3, o, ← p7]
    unfold pC
    simp only [h, decide_true, Bool.true_and, Bool.and_eq_true, Bool.or_eq_true, decide_eq_true_eq, Bool.not_eq_true', decide_eq_false_iff_not, true_and]
    constructor
    · rintro ⟨⟨a, b⟩, c⟩; exact ⟨c, b, a⟩
    · rintro ⟨a, b, c⟩; exact ⟨⟨c, b⟩, a⟩
  · simp [h]
theorem pTm_force {mo : Nat} {se : Nat → Int32} {S : xS} {P : Nat → Int32} (hB : GB mo se S) (hp : PR mo S P) {mi : Nat} (hmi : mi < mo) (hl : hs (S.1 8) (nI mi) = false) : pTm P se mi mo = vForce mo S.1 S.2.2.2.2.2 mi := by
  have hm4 := hB.1.2.1
  unfold vForce
  rw [if_pos (by rw [hs_liv hB.1.1 hm4 (by omega), hl, decide_eq_true hmi]; rfl)]
  have fb := fun (k : Nat) (hk : k < 32) => force_bit (k := k) hB hp hmi hk
  revert fb
  generalize (vOn S.2.2.2.2.2 ((nI 1 <<< (nI (plN S.2.2.2.2.2 mi) &&& 31)) ||| xnear (plN S.2.2.2.2.2 mi)) mo &&& (if hs (S.1 7) (nI mi) = true then S.1 7 ^^^ (-1) else S.1 7) &&& vLiv S.1) = X
  intro fb
  by_cases h0 : X = 0
  · rw [if_pos h0]
    refine pTm_1 mo (fun k hk hC => ?_)
    have q := (fb k (by omega)).mpr ⟨hk, hC⟩
    rw [h0, hs_zz (by omega)] at q
    cases q
  · rw [if_neg h0]
    obtain ⟨k, hk, h⟩ := ne_bit h0
    obtain ⟨hkm, hC⟩ := (fb k hk).mp h
    exact pTm_2 hC mo hkm
theorem vForce_N {mo mi : Nat} {f w5 : Nat → Int32} : ∃ t, t ≤ 2 ∧ vForce mo f w5 mi = nI t := by
  unfold vForce
  generalize (vOn w5 ((nI 1 <<< (nI (plN w5 mi) &&& 31)) ||| xnear (plN w5 mi)) mo &&& (if hs (f 7) (nI mi) = true then f 7 ^^^ (-1) else f 7) &&& vLiv f) = X
  by_cases h : hs (vLiv f) (nI mi) = true
  · rw [if_pos h]
    by_cases h0 : X = 0
    · rw [if_pos h0]; exact ⟨1, by omega, rfl⟩
    · rw [if_neg h0]; exact ⟨2, by omega, rfl⟩
  · rw [if_neg h]; exact ⟨0, by omega, rfl⟩
end XRB
