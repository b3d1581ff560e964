/-! THE MODEL: the best -/
section XMG
variable {G : xG} {T : xT} {R : xR} {L : xL} {I : xI}
theorem GV.prD {mo E : Nat} {se : Nat → Int32} {S : xS} (hB : GB mo se S) (hV : GV mo E S) (mi : Nat) : GV mo (E + 1) (gPr mo S mi) ∧ tkS S ≤ tkS (gPr mo S mi) := by
  obtain ⟨l1, l2⟩ := hV.lb mi
  obtain ⟨w1, w2, w3, w4⟩ := GV_wv (hB.keep (keep_lb mo _ mi)) l1
  exact ⟨w1, by rw [← l2]; exact w2⟩
theorem GV_bk {mo : Nat} {se : Nat → Int32} {b0 : Int32} {g : Nat → Int32} : ∀ n i E S, GB mo se S → GV mo E S → ∃ E2, GV mo E2 (bk mo b0 g n i S).2 ∧ tkS S ≤ tkS (bk mo b0 g n i S).2 := by
  intro n
  induction n with
  | zero => intro i E S hB hV; exact ⟨E, hV, Nat.le_refl _⟩
  | succ n ih =>
    intro i E S hB hV
    obtain ⟨v1, v2⟩ := GV.prD hB hV (g i).toNatClampNeg
    rw [bk]
    by_cases c : bLiv S.1 (g i) = true
    · rw [if_pos c]
      by_cases d : (gPr mo S (g i).toNatClampNeg).1 8 = b0
      · rw [if_pos d]
        obtain ⟨E2, e1, e2⟩ := ih (i + 1) _ _ (hB.keep (keep_pr mo S _)) v1
        exact ⟨E2, e1, Nat.le_trans v2 e2⟩
      · rw [if_neg d]; exact ⟨_, v1, v2⟩
    · rw [if_neg c]; exact ⟨E, hV, Nat.le_refl _⟩
theorem bk_no {mo : Nat} {se : Nat → Int32} {b0 : Int32} {g : Nat → Int32} : ∀ n i S, GB mo se S → i + n < 100 → (∃ c, i ≤ c ∧ c < i + n ∧ ∃ d, 4 ≤ d ∧ d < 10 ∧ g c = nI d) → ¬ (bk mo b0 g n i S).1 = -9 := by
  have ne : ∀ i, i < 100 → ¬ nI i = -9 := by decide +kernel
  intro n
  induction n with
  | zero => intro i S hB hi h; obtain ⟨c, h1, h2, -⟩ := h; omega
  | succ n ih =>
    intro i S hB hi h
    rw [bk]
    by_cases c : bLiv S.1 (g i) = true
    · rw [if_pos c]
      by_cases d : (gPr mo S (g i).toNatClampNeg).1 8 = b0
      · rw [if_pos d]
        refine ih (i + 1) _ (hB.keep (keep_pr mo S _)) (by omega) ?_
        obtain ⟨q, h1, h2, e, he, he2, hq⟩ := h
        refine ⟨q, ?_, by omega, e, he, he2, hq⟩
        have : q ≠ i := fun z => by
          subst z
          rw [hq] at c
          have := bLiv_M c
          rw [bMonk_N hB.1.1 hB.1.2.1 (by omega)] at this
          have h4 := hB.1.2.1
          exact absurd (of_decide_eq_true this) (by omega)
        omega
      · rw [if_neg d]; exact ne i (by omega)
    · rw [if_neg c]; exact ne i (by omega)
/-- a code's row; how many codes have a row below -/
def rowOf (c : Nat) : Nat := c / 16 * 100 + c / 4 % 4 * 10 + c % 4
def gR (r : Nat) : Nat := (List.range 64).foldl (fun a c => if rowOf c < r then a + 1 else a) 0
def dg4 (n r : Nat) : Bool := (List.range n).all (fun c => decide (r / 10 ^ (n - 1 - c) % 10 < 4))
theorem gR_s : ∀ n, n < 4 → ∀ r, r < 10 ^ n → gR r ≤ 4 ^ n ∧ (if dg4 n r = true then gR (r + 1) = gR r + 1 ∧ rowOf (gR r) = r ∧ gR r < 4 ^ n else gR (r + 1) = gR r) := by decide +kernel
theorem gR_e : ∀ n, n < 4 → gR (10 ^ n) = 4 ^ n := by decide +kernel
theorem gR_0 : gR 0 = 0 := by decide +kernel
theorem fig_row : ∀ n, n < 4 → ∀ k, k < 4 ^ n → ∀ c, c < n → fig (nI n) (nI k) (nI c) = nI (rowOf k / 10 ^ (n - 1 - c) % 10) := by decide +kernel
theorem row_lt : ∀ k, k < 64 → rowOf k < 1000 := by decide +kernel
theorem dg4_f {n r : Nat} (h : dg4 n r = false) : ∃ c, 0 ≤ c ∧ c < 0 + n ∧ ∃ d, 4 ≤ d ∧ d < 10 ∧ fgs n r c = nI d := by
  unfold dg4 at h
  rw [List.all_eq_false] at h
  obtain ⟨c, hc, hd⟩ := h
  have hd : ¬ r / 10 ^ (n - 1 - c) % 10 < 4 := fun z => hd (decide_eq_true z)
  exact ⟨c, Nat.zero_le _, by have := List.mem_range.mp hc; omega, _, by omega, Nat.mod_lt _ (by decide), rfl⟩
/-- the best so far, as the Model tells it -/
def mB (mo : Nat) (S : xS) (n k : Nat) : Int32 := if (bF mo S n k).2 = -9 then (-9) else (bF mo S n k).1 - S.1 10
def rowR (mo : Nat) (S : xS) (n k : Nat) (b : Int32) : Prop := ¬ (bF mo S n k).2 = -9 → b = nI (rowOf (bF mo S n k).2.toNatClampNeg)
theorem bF_inv {mo E : Nat} {se : Nat → Int32} {S : xS} {n : Nat} (hB : GB mo se S) (hV : GV mo E S) (hn : n < 4) : ∀ k, k ≤ 4 ^ n → (bF mo S n k = (-1, -9)) ∨ (∃ c u, c < k ∧ bF mo S n k = (nI u, nI c) ∧ tkS S ≤ u ∧ u ≤ 108 ∧ (bks mo S n (nI c)).2.1 10 = nI u) := by
  intro k
  induction k with
  | zero => intro _; exact Or.inl rfl
  | succ k ih =>
    intro hk
    have q := ih (by omega)
    rw [bF]
    by_cases c : (bks mo S n (nI k)).1 = -9 ∧ ¬ (bks mo S n (nI k)).2.1 10 ≤ (bF mo S n k).1
    · rw [if_pos c]
      obtain ⟨E2, v, t⟩ := GV_bk (b0 := S.1 8) (g := fun c => fig (nI n) (nI k) (nI c)) n 0 E S hB hV
      obtain ⟨t1, t2⟩ := v.tkN
      exact Or.inr ⟨k, tkS (bks mo S n (nI k)).2, by omega, by rw [show (bks mo S n (nI k)).2.1 10 = nI (tkS (bks mo S n (nI k)).2) from t1], t, t2, t1⟩
    · rw [if_neg c]
      rcases q with q | ⟨c, u, h1, h2, h3⟩
      · exact Or.inl q
      · exact Or.inr ⟨c, u, by omega, h2, h3⟩
theorem ne9 {k : Nat} (h : k < 2 ^ 31) : ¬ nI k = -9 := fun z => by
  have e := nI_pos (n := k) h
  rw [z] at e
  exact e (by decide)
theorem bks_row {mo n r : Nat} {S : xS} (hn : n < 4) (hr : r < 10 ^ n) (h : dg4 n r = true) : bk mo (S.1 8) (fgs n r) n 0 S = bks mo S n (nI (gR r)) := by
  obtain ⟨g1, g2⟩ := gR_s n hn r hr
  rw [if_pos h] at g2
  unfold bks
  refine bk_cong n 0 S (fun c _ hc => ?_)
  rw [fig_row n hn _ g2.2.2 c (by omega), g2.2.1]
  rfl
/-- one row more is tried -/
theorem mB_s {mo E n r : Nat} {se : Nat → Int32} {S : xS} (hB : GB mo se S) (hV : GV mo E S) (hn : n < 4) (hr : r < 10 ^ n) :
    (((bk mo (S.1 8) (fgs n r) n 0 S).1 = -9 ∧ mB mo S n (gR r) < (bk mo (S.1 8) (fgs n r) n 0 S).2.1 10 - S.1 10) → mB mo S n (gR (r + 1)) = (bk mo (S.1 8) (fgs n r) n 0 S).2.1 10 - S.1 10 ∧ rowR mo S n (gR (r + 1)) (nI r)) ∧
    (¬ ((bk mo (S.1 8) (fgs n r) n 0 S).1 = -9 ∧ mB mo S n (gR r) < (bk mo (S.1 8) (fgs n r) n 0 S).2.1 10 - S.1 10) → mB mo S n (gR (r + 1)) = mB mo S n (gR r) ∧ ∀ b, rowR mo S n (gR r) b → rowR mo S n (gR (r + 1)) b) := by
  obtain ⟨g1, g2⟩ := gR_s n hn r hr
  have h64 := p4_le n hn
  cases h : dg4 n r
  · rw [h, if_neg (by decide)] at g2
    have no := bk_no (b0 := S.1 8) n 0 S hB (by omega) (dg4_f h)
    exact ⟨fun z => absurd z.1 no, fun _ => by rw [g2]; exact ⟨rfl, fun b z => z⟩⟩
  · rw [bks_row hn hr h]
    rw [if_pos h] at g2
    obtain ⟨g3, g4, g5⟩ := g2
    obtain ⟨t1, t2⟩ := hV.tkN
    obtain ⟨E2, v, t⟩ := GV_bk (b0 := S.1 8) (g := fun c => fig (nI n) (nI (gR r)) (nI c)) n 0 E S hB hV
    obtain ⟨w1, w2⟩ := v.tkN
    have w1 : (bks mo S n (nI (gR r))).2.1 10 = nI (tkS (bks mo S n (nI (gR r))).2) := w1
    have w2 : tkS (bks mo S n (nI (gR r))).2 ≤ 108 := w2
    have t : tkS S ≤ tkS (bks mo S n (nI (gR r))).2 := t
    have key : mB mo S n (gR r) < (bks mo S n (nI (gR r))).2.1 10 - S.1 10 ↔ ¬ (bks mo S n (nI (gR r))).2.1 10 ≤ (bF mo S n (gR r)).1 := by
      rw [w1, t1, pk_sub t]
      unfold mB
      rcases bF_inv hB hV hn (gR r) g1 with q | ⟨c, u, h1, h2, h3, h4, h5⟩
      · rw [q, if_pos rfl]
        refine ⟨fun _ z => ?_, fun _ => ?_⟩
        · exact absurd (Int32.le_trans (nI_pos' (by omega)) z) (by decide)
        · exact Int32.lt_of_lt_of_le (b := 0) (by decide) (nI_pos' (by omega))
      · rw [h2]
        have n9 := ne9 (k := c) (by omega)
        dsimp only
        rw [if_neg n9, t1, pk_sub h3, nI_ltI (by omega) (by omega), nI_leI (by omega) (by omega)]
        omega
    have nk := ne9 (k := gR r) (by omega)
    rw [g3]
    refine ⟨fun z => ?_, fun z => ?_⟩
    · have e := bF_t z.1 (key.mp z.2)
      unfold mB rowR
      rw [e]
      dsimp only
      rw [if_neg nk, nI_clamp (by omega), g4]
      exact ⟨rfl, fun _ => rfl⟩
    · have e : bF mo S n (gR r + 1) = bF mo S n (gR r) := bF_f (by
        by_cases c : (bks mo S n (nI (gR r))).1 = -9
        · exact Or.inr (Classical.not_not.mp (fun y => z ⟨c, key.mpr y⟩))
        · exact Or.inl c)
      unfold mB rowR
      rw [e]
      exact ⟨rfl, fun b q => q⟩
theorem xst_23 {I : xI} {m : Nat} {b c : Int32} {Q : Nat → Int32} : xst (va_up (xst I m 23 b) (m + 11) Q) m 23 c = va_up (xst I m 23 c) (m + 11) Q := by
  funext a
  by_cases e : a = m
  · subst e
    rw [xst_s, va_up_n (by omega), va_up_n (by omega), xst_s, xst_s, upd_twice]
  · rw [xst_o e]
    by_cases e2 : a = m + 11
    · subst e2; rw [va_up_s, va_up_s]
    · rw [va_up_n e2, va_up_n e2, xst_o e, xst_o e]
theorem xst_own2 {I : xI} {m : Nat} {P : Nat → Int32} : va_up I (m + 11) P = va_up (xst I m 23 (I m 23)) (m + 11) P := by rw [xst_own rfl]
set_option maxHeartbeats 4000000 in
set_option maxRecDepth 100000 in
theorem P_X3_findBest_5 {m mo E : Nat} {S : xS} (hX : XM G T R m) (hmo : I m 5 = nI mo) (hB : GB mo (I (m + 2)) S) (hV : GV mo E S) (hho : I m 4 = S.1 5) (hPg : PR mo S (I (m + 3))) {n : Nat} (h1n : 1 ≤ n) (hn3 : n ≤ 3) : ∀ k, k ≤ 10 ^ n → ∀ P b, rowR mo S n (gR k) b → xV G Y_X3_findBest T (T, fun o2 R2 L2 I2 => ∃ r, o2 = some (.int r) ∧ (r = mB mo S n (4 ^ n) ∧ R2 = R ∧ L2 = L ∧ ∃ Q b, I2 = va_up (xst I m 23 b) (m + 11) Q ∧ rowR mo S n (4 ^ n) b)) 5 [some (.ref m), some (.int (nI n)), some (.int (mB mo S n (gR k))), some (.int (nI k))] [] T R L (va_up (xst I m 23 b) (m + 11) P) := by
  obtain ⟨m0, rt, st, rs, ss, rp, sp, rrp, srp, rrs, srs, rb, sb, rk, sk, ri, si, rc, sc, rv, sv, rr, sr⟩ := id hX
  have hm4 := hB.1.2.1
  have ht10 := p10 (n := n) (by omega)
  refine xloop (10 ^ n) (fun k hk0 ih => ?_)
  intro P b hb
  refine xV_iload_n e_X3_findBest_5 rfl ?_
  refine xV_iload_n e_X3_findBest_6 rfl ?_
  refine xV_cS1i e_X3_findBest_7 c_X3_154 (C_X3_ten (by omega)) (Nat.le_of_ble_eq_true rfl) ⟨(Nat.le_of_ble_eq_true rfl), (Nat.le_of_ble_eq_true rfl)⟩ (xle_r _) (xle_r _) ?_
  refine xV_icmp_geN e_X3_findBest_10 (by omega) (by omega) (fun h10 => ?_) (fun h10 => ?_)
  · obtain rfl : k = 10 ^ n := by omega
    rw [gR_e n (by omega)] at hb ⊢
    refine xV_iload_n e_X3_findBest_70 rfl ?_
    exact xV_ireturn e_X3_findBest_71 rfl rfl ⟨_, rfl, rfl, rfl, rfl, P, b, rfl, hb⟩
  · refine xV_aload_n e_X3_findBest_13 rfl ?_
    refine xV_iload_n e_X3_findBest_14 rfl ?_
    refine xV_iload_n e_X3_findBest_15 rfl ?_
    refine xV_cV2iP e_X3_findBest_16 c_X3_157 (by assumption) (K_goPsalm (I := xst I m 23 b) (S := S) hX (by rw [xst_s, upd_n (by decide)]; exact hmo) (by rw [xst_o (by omega)]; exact hB) hV (by rw [xst_s, upd_n (by decide)]; exact hho) (by rw [xst_o (by omega)]; exact hPg) (by omega) (by omega)) (Nat.le_of_ble_eq_true rfl) ⟨(Nat.le_of_ble_eq_true rfl), (Nat.le_of_ble_eq_true rfl)⟩ (xle_r _) (xle_r _) (fun r2 R2 L2 J hq => ?_)
    obtain ⟨rfl, rfl, rfl, Q, rfl, hQ⟩ := hq
    refine xV_bipush (v := (-9)) e_X3_findBest_19 (by decide) ?_
    refine xV_icmp_ne e_X3_findBest_21 (fun h21 => ?_) (fun h21 => ?_)
    · refine xV_iincN e_X3_findBest_64 rfl rfl ?_
      refine xV_goto e_X3_findBest_67 ?_
      obtain ⟨s1, s2⟩ := (mB_s hB hV (by omega) (show k < 10 ^ n by omega)).2 (fun y => h21 y.1)
      rw [← s1]
      exact ih (by omega) Q b (s2 b hb)
    · refine xV_aload_n e_X3_findBest_24 rfl ?_
      refine xV_getR e_X3_findBest_25 f_X3_45 (by assumption) (by assumption) ?_
      refine xV_bipush (v := (nI 54)) e_X3_findBest_28 (by decide) ?_
      refine xV_ialdN e_X3_findBest_30 (by first | exact xRow.vp (by assumption) | exact xRow.vo (by omega) (by assumption)) (by omega) (by omega) ?_
      refine xV_aload_n e_X3_findBest_31 rfl ?_
      refine xV_getR e_X3_findBest_32 f_X3_20 (by assumption) (by assumption) ?_
      refine xV_bipush (v := (nI 54)) e_X3_findBest_35 (by decide) ?_
      refine xV_ialdN e_X3_findBest_37 (by first | exact xRow.vp (by assumption) | exact xRow.vo (by omega) (by assumption)) (by omega) (by omega) ?_
      refine xV_isub e_X3_findBest_38 ?_
      rw [hQ.2.2.2.2.2.2.2.1, show xst I m 23 b (m + 3) 54 = S.1 10 from by rw [xst_o (by omega)]; exact hPg.2.2.2.2.2.2.2.1]
      refine xV_iload_n e_X3_findBest_39 rfl ?_
      refine xV_icmp_le e_X3_findBest_40 (fun h40 => ?_) (fun h40 => ?_)
      · refine xV_iincN e_X3_findBest_64 rfl rfl ?_
        refine xV_goto e_X3_findBest_67 ?_
        obtain ⟨s1, s2⟩ := (mB_s hB hV (by omega) (show k < 10 ^ n by omega)).2 (fun y => absurd h40 (Int32.not_le.mpr y.2))
        rw [← s1]
        exact ih (by omega) Q b (s2 b hb)
      · refine xV_aload_n e_X3_findBest_43 rfl ?_
        refine xV_getR e_X3_findBest_44 f_X3_45 (by assumption) (by assumption) ?_
        refine xV_bipush (v := (nI 54)) e_X3_findBest_47 (by decide) ?_
        refine xV_ialdN e_X3_findBest_49 (by first | exact xRow.vp (by assumption) | exact xRow.vo (by omega) (by assumption)) (by omega) (by omega) ?_
        refine xV_aload_n e_X3_findBest_50 rfl ?_
        refine xV_getR e_X3_findBest_51 f_X3_20 (by assumption) (by assumption) ?_
        refine xV_bipush (v := (nI 54)) e_X3_findBest_54 (by decide) ?_
        refine xV_ialdN e_X3_findBest_56 (by first | exact xRow.vp (by assumption) | exact xRow.vo (by omega) (by assumption)) (by omega) (by omega) ?_
        refine xV_isub e_X3_findBest_57 ?_
        rw [hQ.2.2.2.2.2.2.2.1, show xst I m 23 b (m + 3) 54 = S.1 10 from by rw [xst_o (by omega)]; exact hPg.2.2.2.2.2.2.2.1]
        refine xV_istore_n e_X3_findBest_58 (Nat.le_of_ble_eq_true rfl) rfl ?_
        refine xV_aload_n e_X3_findBest_59 rfl ?_
        refine xV_iload_n e_X3_findBest_60 rfl ?_
        refine xV_putI e_X3_findBest_61 p_X3_160 (by assumption) ?_
        refine xV_iincN e_X3_findBest_64 rfl rfl ?_
        refine xV_goto e_X3_findBest_67 ?_
        obtain ⟨s1, s2⟩ := (mB_s hB hV (by omega) (show k < 10 ^ n by omega)).1 ⟨h21, Int32.not_le.mp h40⟩
        rw [← s1, xst_23]
        exact ih (by omega) Q (nI k) s2
set_option maxHeartbeats 4000000 in
set_option maxRecDepth 100000 in
theorem K_findBest {m mo E : Nat} {S : xS} (hX : XM G T R m) (hmo : I m 5 = nI mo) (hB : GB mo (I (m + 2)) S) (hV : GV mo E S) (hho : I m 4 = S.1 5) (hPg : PR mo S (I (m + 3))) {n : Nat} (h1n : 1 ≤ n) (hn3 : n ≤ 3) {P : Nat → Int32} : xCon G Y_X3_findBest [.ref m, .int (nI n)] T R L (va_up I (m + 11) P) ((T, fun o2 R2 L2 I2 => ∃ r, o2 = some (.int r) ∧ (r = mB mo S n (4 ^ n) ∧ R2 = R ∧ L2 = L ∧ ∃ Q b, I2 = va_up (xst I m 23 b) (m + 11) Q ∧ rowR mo S n (4 ^ n) b))) := by
  obtain ⟨m0, rt, st, rs, ss, rp, sp, rrp, srp, rrs, srs, rb, sb, rk, sk, ri, si, rc, sc, rv, sv, rr, sr⟩ := id hX
  have hm4 := hB.1.2.1
  refine xCon.mk (xl := [some (.ref m), some (.int (nI n)), none, none]) (by decide +kernel) (xle_r _) rfl (Nat.le_of_ble_eq_true rfl) rfl ?_
  refine xV_bipush (v := (-9)) e_X3_findBest_0 (by decide) ?_
  refine xV_istore_n e_X3_findBest_2 (Nat.le_of_ble_eq_true rfl) rfl ?_
  refine xV_iconst (v := (nI 0)) e_X3_findBest_3 (by decide) ?_
  refine xV_istore_n e_X3_findBest_4 (Nat.le_of_ble_eq_true rfl) rfl ?_
  rw [xst_own2]
  exact P_X3_findBest_5 hX hmo hB hV hho hPg h1n hn3 0 (Nat.zero_le _) P (I m 23) (fun z => by rw [gR_0] at z; exact absurd rfl z)
def uBest (mo : Nat) (S : xS) (n : Int32) : Int32 := if (decide (nI 1 ≤ n) && decide (n ≤ nI 3)) = true then qBest mo S n.toNatClampNeg else (-2)
def uBestAt (mo : Nat) (S : xS) (n i : Int32) : Int32 := if (decide (nI 1 ≤ n) && decide (n ≤ nI 3)) = true then qBestAt mo S n.toNatClampNeg i else (-2)
theorem uBest_n {mo : Nat} {S : xS} {n : Int32} (h : (decide (nI 1 ≤ n) && decide (n ≤ nI 3)) = false) : uBest mo S n = -2 := by unfold uBest; rw [if_neg (bl_f h)]
theorem uBestAt_n {mo : Nat} {S : xS} {n i : Int32} (h : (decide (nI 1 ≤ n) && decide (n ≤ nI 3)) = false) : uBestAt mo S n i = -2 := by unfold uBestAt; rw [if_neg (bl_f h)]
theorem uB_y {n : Nat} (h1 : 1 ≤ n) (h3 : n ≤ 3) : (decide (nI 1 ≤ nI n) && decide (nI n ≤ nI 3)) = true := by rw [decide_eq_true (nI_le h1 (by omega)), decide_eq_true (nI_le h3 (by decide))]; rfl
theorem mB_best {mo E n : Nat} {se : Nat → Int32} {S : xS} (hB : GB mo se S) (hV : GV mo E S) (h1 : 1 ≤ n) (h3 : n ≤ 3) : mB mo S n (4 ^ n) = uBest mo S (nI n) := by
  unfold uBest
  rw [if_pos (uB_y h1 h3), nI_clamp (by omega)]
  unfold mB qBest
  rcases bF_inv hB hV (n := n) (by omega) (4 ^ n) (Nat.le_refl _) with q | ⟨c, u, h1, h2, h3, h4, h5⟩
  · rw [q, if_pos rfl, if_pos rfl]
  · have := p4_le n (by omega)
    rw [h2]
    dsimp only
    rw [if_neg (ne9 (by omega)), if_neg (ne9 (by omega)), h5]
theorem mB_9 {mo E n : Nat} {se : Nat → Int32} {S : xS} (hB : GB mo se S) (hV : GV mo E S) (h3 : n ≤ 3) : mB mo S n (4 ^ n) = -9 ↔ (bF mo S n (4 ^ n)).2 = -9 := by
  unfold mB
  rcases bF_inv hB hV (n := n) (by omega) (4 ^ n) (Nat.le_refl _) with q | ⟨c, u, h1, h2, h3, h4, h5⟩
  · rw [q, if_pos rfl]
  · have := p4_le n (by omega)
    rw [h2]
    dsimp only
    rw [if_neg (ne9 (by omega)), hV.tkN.1, pk_sub h3]
    exact ⟨fun z => absurd z (ne9 (by omega)), fun z => absurd z (ne9 (by omega))⟩
theorem uBestAt_y {mo E n i : Nat} {se : Nat → Int32} {S : xS} {b : Int32} (hB : GB mo se S) (hV : GV mo E S) (h1 : 1 ≤ n) (h3 : n ≤ 3) (hi : i < n) (h : ¬ (bF mo S n (4 ^ n)).2 = -9) (hb : rowR mo S n (4 ^ n) b) : ∃ r, r < 1000 ∧ b = nI r ∧ uBestAt mo S (nI n) (nI i) = nI (r / 10 ^ (n - 1 - i) % 10) := by
  have h64 := p4_le n (by omega)
  rcases bF_inv hB hV (n := n) (by omega) (4 ^ n) (Nat.le_refl _) with q | ⟨c, u, g1, g2, g3, g4, g5⟩
  · rw [q] at h; exact absurd rfl h
  · refine ⟨rowOf c, row_lt c (by omega), ?_, ?_⟩
    · have := hb h
      rw [g2] at this
      dsimp only at this
      rw [nI_clamp (by omega)] at this
      exact this
    · unfold uBestAt qBestAt
      rw [if_pos (uB_y h1 h3), nI_clamp (by omega), if_neg (nI_pos (by omega)), if_pos (nI_lt hi (by omega)), if_neg h, g2]
      exact fig_row n (by omega) c g1 i hi
theorem uBestAt_9 {mo n : Nat} {S : xS} {i : Int32} (h1 : 1 ≤ n) (h3 : n ≤ 3) (h : (bF mo S n (4 ^ n)).2 = -9) : uBestAt mo S (nI n) i = -9 := by
  unfold uBestAt qBestAt
  rw [if_pos (uB_y h1 h3), nI_clamp (by omega), if_pos h]
  split
  · rfl
  · split <;> rfl
theorem uBestAt_i {mo n : Nat} {S : xS} {i : Int32} (h1 : 1 ≤ n) (h3 : n ≤ 3) (h : (decide (0 ≤ i) && decide (i < nI n)) = false) : uBestAt mo S (nI n) i = -9 := by
  unfold uBestAt qBestAt
  rw [if_pos (uB_y h1 h3), nI_clamp (by omega)]
  by_cases c : i < 0
  · rw [if_pos c]
  · rw [if_neg c, if_neg]
    intro z
    rw [decide_eq_true (Int32.not_lt.mp c), decide_eq_true z] at h
    cases h
set_option maxHeartbeats 4000000 in
set_option maxRecDepth 100000 in
theorem K_bestP {m mo E : Nat} {S : xS} (hX : XM G T R m) (hmo : I m 5 = nI mo) (hB : GB mo (I (m + 2)) S) (hV : GV mo E S) (hho : I m 4 = S.1 5) (hPg : PR mo S (I (m + 3))) (h0 : I m 0 = nI 0) {P : Nat → Int32} {n : Int32} : xCon G Y_X3_best [.ref m, .int n] T R L (va_up I (m + 11) P) ((T, fun o2 R2 L2 I2 => ∃ r, o2 = some (.int r) ∧ (r = uBest mo S n ∧ R2 = R ∧ L2 = L ∧ ∃ Q b, I2 = va_up (xst I m 23 b) (m + 11) Q))) := by
  obtain ⟨m0, rt, st, rs, ss, rp, sp, rrp, srp, rrs, srs, rb, sb, rk, sk, ri, si, rc, sc, rv, sv, rr, sr⟩ := id hX
  have hm4 := hB.1.2.1
  refine xCon.mk (xl := [some (.ref m), some (.int n)]) (by decide +kernel) (xle_r _) rfl (Nat.le_of_ble_eq_true rfl) rfl ?_
  refine xV_aload_n e_X3_best_0 rfl ?_
  refine xV_iconst (v := (nI 0)) e_X3_best_1 (by decide) ?_
  refine xV_putI e_X3_best_2 p_X3_48 (by assumption) ?_
  rw [xst_ownP h0]
  refine xV_iload_n e_X3_best_5 rfl ?_
  refine xV_i2l e_X3_best_6 ?_
  refine xV_lconst (v := 1) e_X3_best_7 (by decide) ?_
  refine xV_ldc2 e_X3_best_8 k_X3_163 ?_
  refine xV_cS3i e_X3_best_11 c_X3_54 (C_X3_in) (Nat.le_of_ble_eq_true rfl) ⟨(Nat.le_of_ble_eq_true rfl), (Nat.le_of_ble_eq_true rfl)⟩ (xle_r _) (xle_r _) ?_
  rw [bL_N (a := 1) (b := 3) (by decide) (by decide)]
  refine xV_if_eqB e_X3_best_14 (fun h14 => ?_) (fun h14 => ?_)
  · refine xV_bipush (v := (-2)) e_X3_best_25 (by decide) ?_
    exact xV_ireturn e_X3_best_27 rfl rfl ⟨_, rfl, (uBest_n h14).symm, rfl, rfl, _, I m 23, xst_own2⟩
  · obtain ⟨n, h1n, hn3, rfl⟩ := bL_j (by decide) (by decide) h14
    refine xV_aload_n e_X3_best_17 rfl ?_
    refine xV_iload_n e_X3_best_18 rfl ?_
    refine xV_cV1iP e_X3_best_19 c_X3_165 (by assumption) (K_findBest hX hmo hB hV hho hPg h1n hn3) (Nat.le_of_ble_eq_true rfl) ⟨(Nat.le_of_ble_eq_true rfl), (Nat.le_of_ble_eq_true rfl)⟩ (xle_r _) (xle_r _) (fun r2 R2 L2 J hq => ?_)
    obtain ⟨rfl, rfl, rfl, Q, b, rfl, hb⟩ := hq
    refine xV_goto e_X3_best_22 ?_
    exact xV_ireturn e_X3_best_27 rfl rfl ⟨_, rfl, mB_best hB hV h1n hn3, rfl, rfl, _, b, rfl⟩
set_option maxHeartbeats 4000000 in
set_option maxRecDepth 100000 in
theorem K_bestAtP {m mo E : Nat} {S : xS} (hX : XM G T R m) (hmo : I m 5 = nI mo) (hB : GB mo (I (m + 2)) S) (hV : GV mo E S) (hho : I m 4 = S.1 5) (hPg : PR mo S (I (m + 3))) (h0 : I m 0 = nI 0) {P : Nat → Int32} {n i : Int32} : xCon G Y_X3_bestAt [.ref m, .int n, .int i] T R L (va_up I (m + 11) P) ((T, fun o2 R2 L2 I2 => ∃ r, o2 = some (.int r) ∧ (r = uBestAt mo S n i ∧ R2 = R ∧ L2 = L ∧ ∃ Q b, I2 = va_up (xst I m 23 b) (m + 11) Q))) := by
  obtain ⟨m0, rt, st, rs, ss, rp, sp, rrp, srp, rrs, srs, rb, sb, rk, sk, ri, si, rc, sc, rv, sv, rr, sr⟩ := id hX
  have hm4 := hB.1.2.1
  refine xCon.mk (xl := [some (.ref m), some (.int n), some (.int i)]) (by decide +kernel) (xle_r _) rfl (Nat.le_of_ble_eq_true rfl) rfl ?_
  refine xV_aload_n e_X3_bestAt_0 rfl ?_
  refine xV_iconst (v := (nI 0)) e_X3_bestAt_1 (by decide) ?_
  refine xV_putI e_X3_bestAt_2 p_X3_48 (by assumption) ?_
  rw [xst_ownP h0]
  refine xV_iload_n e_X3_bestAt_5 rfl ?_
  refine xV_i2l e_X3_bestAt_6 ?_
  refine xV_lconst (v := 1) e_X3_bestAt_7 (by decide) ?_
  refine xV_ldc2 e_X3_bestAt_8 k_X3_163 ?_
  refine xV_cS3i e_X3_bestAt_11 c_X3_54 (C_X3_in) (Nat.le_of_ble_eq_true rfl) ⟨(Nat.le_of_ble_eq_true rfl), (Nat.le_of_ble_eq_true rfl)⟩ (xle_r _) (xle_r _) ?_
  rw [bL_N (a := 1) (b := 3) (by decide) (by decide)]
  refine xV_if_neB e_X3_bestAt_14 (fun h14 => ?_) (fun h14 => ?_)
  · obtain ⟨n, h1n, hn3, rfl⟩ := bL_j (by decide) (by decide) h14
    refine xV_aload_n e_X3_bestAt_20 rfl ?_
    refine xV_iload_n e_X3_bestAt_21 rfl ?_
    refine xV_cV1iP e_X3_bestAt_22 c_X3_165 (by assumption) (K_findBest hX hmo hB hV hho hPg h1n hn3) (Nat.le_of_ble_eq_true rfl) ⟨(Nat.le_of_ble_eq_true rfl), (Nat.le_of_ble_eq_true rfl)⟩ (xle_r _) (xle_r _) (fun r2 R2 L2 J hq => ?_)
    obtain ⟨rfl, rfl, rfl, Q, b, rfl, hb⟩ := hq
    refine xV_bipush (v := (-9)) e_X3_bestAt_25 (by decide) ?_
    refine xV_icmp_eq e_X3_bestAt_27 (fun h27 => ?_) (fun h27 => ?_)
    · refine xV_bipush (v := (-9)) e_X3_bestAt_62 (by decide) ?_
      exact xV_ireturn e_X3_bestAt_64 rfl rfl ⟨_, rfl, (uBestAt_9 h1n hn3 ((mB_9 hB hV hn3).mp h27)).symm, rfl, rfl, _, b, rfl⟩
    · refine xV_iload_n e_X3_bestAt_30 rfl ?_
      refine xV_i2l e_X3_bestAt_31 ?_
      refine xV_lconst (v := 0) e_X3_bestAt_32 (by decide) ?_
      refine xV_iload_n e_X3_bestAt_33 rfl ?_
      refine xV_iconst (v := (nI 1)) e_X3_bestAt_34 (by decide) ?_
      refine xV_isub e_X3_bestAt_35 ?_
      refine xV_i2l e_X3_bestAt_36 ?_
      refine xV_cS3i e_X3_bestAt_37 c_X3_54 (C_X3_in) (Nat.le_of_ble_eq_true rfl) ⟨(Nat.le_of_ble_eq_true rfl), (Nat.le_of_ble_eq_true rfl)⟩ (xle_r _) (xle_r _) ?_
      rw [bL_lt (by omega)]
      refine xV_if_eqB e_X3_bestAt_40 (fun h40 => ?_) (fun h40 => ?_)
      · refine xV_bipush (v := (-9)) e_X3_bestAt_62 (by decide) ?_
        exact xV_ireturn e_X3_bestAt_64 rfl rfl ⟨_, rfl, (uBestAt_i h1n hn3 h40).symm, rfl, rfl, _, b, rfl⟩
      · obtain ⟨j, hj, rfl⟩ := bL_k (by omega) h40
        obtain ⟨ro, hro, rfl, hu⟩ := uBestAt_y hB hV h1n hn3 hj (fun z => h27 ((mB_9 hB hV hn3).mpr z)) hb
        have ht10 := p10 (n := n - 1 - j) (by omega)
        refine xV_aload_n e_X3_bestAt_43 rfl ?_
        refine xV_getO e_X3_bestAt_44 f_X3_160 m0 (by omega) ?_
        rw [xst_s, upd_s]
        refine xV_iload_n e_X3_bestAt_47 rfl ?_
        refine xV_iconst (v := (nI 1)) e_X3_bestAt_48 (by decide) ?_
        refine xV_isub e_X3_bestAt_49 ?_
        refine xV_iload_n e_X3_bestAt_50 rfl ?_
        refine xV_isub e_X3_bestAt_51 ?_
        rw [pk_sub h1n, pk_sub (show j ≤ n - 1 by omega)]
        refine xV_cS1i e_X3_bestAt_52 c_X3_154 (C_X3_ten (by omega)) (Nat.le_of_ble_eq_true rfl) ⟨(Nat.le_of_ble_eq_true rfl), (Nat.le_of_ble_eq_true rfl)⟩ (xle_r _) (xle_r _) ?_
        have hz : ¬ nI (10 ^ (n - 1 - j)) = 0 := nI_ne0 ht10.1 (by omega)
        refine xV_idiv e_X3_bestAt_55 (by first | assumption | decide) ?_
        rw [pk_div (by omega) ht10.1 (by omega)]
        refine xV_bipush (v := (nI 10)) e_X3_bestAt_56 (by decide) ?_
        refine xV_irem e_X3_bestAt_58 (by first | assumption | decide) ?_
        rw [pk_rem (Nat.lt_of_le_of_lt (Nat.div_le_self _ _) (by omega)) (by decide) (by decide)]
        refine xV_goto e_X3_bestAt_59 ?_
        exact xV_ireturn e_X3_bestAt_64 rfl rfl ⟨_, rfl, hu.symm, rfl, rfl, _, _, rfl⟩
  · refine xV_bipush (v := (-2)) e_X3_bestAt_17 (by decide) ?_
    exact xV_ireturn e_X3_bestAt_19 rfl rfl ⟨_, rfl, (uBestAt_n h14).symm, rfl, rfl, _, I m 23, xst_own2⟩
theorem K_best {m mo E : Nat} {S : xS} (hX : XM G T R m) (hmo : I m 5 = nI mo) (hB : GB mo (I (m + 2)) S) (hV : GV mo E S) (hho : I m 4 = S.1 5) (hPg : PR mo S (I (m + 3))) (h0 : I m 0 = nI 0) {n : Int32} : xCon G Y_X3_best [.ref m, .int n] T R L I (T, fun o2 R2 L2 I2 => ∃ r, o2 = some (.int r) ∧ (r = uBest mo S n ∧ R2 = R ∧ L2 = L ∧ ∃ Q b, I2 = va_up (xst I m 23 b) (m + 11) Q)) := by
  have q := K_bestP (L := L) (P := I (m + 11)) hX hmo hB hV hho hPg h0 (n := n)
  rwa [va_up_own] at q
theorem K_bestAt {m mo E : Nat} {S : xS} (hX : XM G T R m) (hmo : I m 5 = nI mo) (hB : GB mo (I (m + 2)) S) (hV : GV mo E S) (hho : I m 4 = S.1 5) (hPg : PR mo S (I (m + 3))) (h0 : I m 0 = nI 0) {n i : Int32} : xCon G Y_X3_bestAt [.ref m, .int n, .int i] T R L I (T, fun o2 R2 L2 I2 => ∃ r, o2 = some (.int r) ∧ (r = uBestAt mo S n i ∧ R2 = R ∧ L2 = L ∧ ∃ Q b, I2 = va_up (xst I m 23 b) (m + 11) Q)) := by
  have q := K_bestAtP (L := L) (P := I (m + 11)) hX hmo hB hV hho hPg h0 (n := n) (i := i)
  rwa [va_up_own] at q
end XMG
