/-! THE MODEL: psalms, the best -/
section XMF
variable {G : xG} {T : xT} {R : xR} {L : xL} {I : xI}
theorem bL_N {v : Int32} {a b : Nat} {A B : Int64} (hA : A = (nI a).toInt64) (hB : B = (nI b).toInt64) : bL v.toInt64 A B = (decide (nI a ≤ v) && decide (v ≤ nI b)) := by
  rw [hA, hB, bL_I]
  rfl
theorem bL_j {v : Int32} {a b : Nat} (hb : b < 2 ^ 31) (ha : a ≤ b) (h : (decide (nI a ≤ v) && decide (v ≤ nI b)) = true) : ∃ j, a ≤ j ∧ j ≤ b ∧ v = nI j := by
  simp only [Bool.and_eq_true, decide_eq_true_eq] at h
  obtain ⟨j, hj, e⟩ := nI_of2 (n := b) (nI_toInt hb) (Int32.not_lt.mpr (Int32.le_trans (nI_pos' (by omega)) h.1)) h.2
  subst e
  exact ⟨j, (nI_leI (by omega) (by omega)).mp h.1, hj, rfl⟩
theorem bL_lt {v : Int32} {n : Nat} (hn : n < 2 ^ 30) : bL v.toInt64 0 (nI n - nI 1).toInt64 = (decide (0 ≤ v) && decide (v < nI n)) := by
  have e : bL v.toInt64 0 (nI n - nI 1).toInt64 = bI v 0 (nI n - nI 1) := bL_I (v := v) (a := 0) (b := nI n - nI 1)
  rw [e]
  unfold bI
  congr 1
  apply decide_eq_decide.mpr
  rw [Int32.le_iff_toInt_le, Int32.lt_iff_toInt_lt, nI_toInt (by omega), pk_sub_toInt (by omega) (by decide)]
  omega
theorem bL_k {v : Int32} {n : Nat} (hn : n < 2 ^ 31) (h : (decide (0 ≤ v) && decide (v < nI n)) = true) : ∃ j, j < n ∧ v = nI j := by
  simp only [Bool.and_eq_true, decide_eq_true_eq] at h
  exact vp_in_of (bIn_vp hn h.1 h.2) hn
theorem p10 {n : Nat} (h : n ≤ 8) : 0 < 10 ^ n ∧ 10 ^ n ≤ 100000000 := ⟨Nat.pow_pos (by decide), Nat.pow_le_pow_right (n := 10) (by decide) h⟩
theorem t10 {n k : Nat} (hk : k < n) (hn : n ≤ 8) : nI (10 ^ (n - k)) / nI 10 = nI (10 ^ (n - 1 - k)) := by
  have q := p10 (n := n - k) (by omega)
  rw [pk_div (by omega) (by decide) (by decide)]
  obtain ⟨j, hj⟩ : ∃ j, n - k = j + 1 := ⟨n - k - 1, by omega⟩
  rw [hj, Nat.pow_succ, Nat.mul_div_cancel _ (by decide), show n - 1 - k = j by omega]
/-- the figures of a row -/
def fgs (n ro : Nat) : Nat → Int32 := fun c => nI (ro / 10 ^ (n - 1 - c) % 10)
set_option maxHeartbeats 4000000 in
set_option maxRecDepth 100000 in
theorem P_X3_goPsalm_12 {m mo n ro : Nat} {b0 : Int32} (hX : XM G T R m) (hmo : I m 5 = nI mo) (hm4 : mo ≤ 4) (hn8 : n ≤ 8) (hro : ro < 2 ^ 31) : ∀ k, k ≤ n → ∀ (E2 : Nat) (S2 : xS) (P : Nat → Int32) (j5 j6 : Option Value), GB mo (I (m + 2)) S2 → GV mo E2 S2 → I m 4 = S2.1 5 → S2.1 8 = b0 → PR mo S2 P →
    xV G Y_X3_goPsalm T (T, fun o2 R2 L2 I2 => ∃ r, o2 = some (.int r) ∧ (r = (bk mo b0 (fgs n ro) (n - k) k S2).1 ∧ R2 = R ∧ L2 = L ∧ ∃ Q, I2 = va_up I (m + 11) Q ∧ PR mo (bk mo b0 (fgs n ro) (n - k) k S2).2 Q)) 12 [some (.ref m), some (.int (nI n)), some (.int (nI ro)), some (.int (nI (10 ^ (n - k)))), some (.int (nI k)), j5, j6] [] T R L (va_up I (m + 11) P) := by
  obtain ⟨m0, rt, st, rs, ss, rp, sp, rrp, srp, rrs, srs, rb, sb, rk, sk, ri, si, rc, sc, rv, sv, rr, sr⟩ := id hX
  refine xloop n (fun k hk0 ih => ?_)
  intro E2 S2 P j5 j6 hB2 hV2 hho2 h8 hp
  refine xV_iload e_X3_goPsalm_12 rfl ?_
  refine xV_iload_n e_X3_goPsalm_14 rfl ?_
  refine xV_icmp_geN e_X3_goPsalm_15 (by omega) (by omega) (fun h15 => ?_) (fun h15 => ?_)
  · obtain rfl : k = n := by omega
    refine xV_bipush (v := (-9)) e_X3_goPsalm_99 (by decide) ?_
    exact xV_ireturn e_X3_goPsalm_101 rfl rfl ⟨_, rfl, by rw [Nat.sub_self]; rfl, rfl, rfl, P, rfl, by rw [Nat.sub_self]; exact hp⟩
  · refine xV_iload_n e_X3_goPsalm_18 rfl ?_
    refine xV_bipush (v := (nI 10)) e_X3_goPsalm_19 (by decide) ?_
    refine xV_idiv e_X3_goPsalm_21 (by first | assumption | decide) ?_
    rw [t10 (by omega) hn8]
    have hz : ¬ nI (10 ^ (n - 1 - k)) = 0 := nI_ne0 (p10 (by omega)).1 (by have := p10 (n := n - 1 - k) (by omega); omega)
    have h10 := p10 (n := n - 1 - k) (by omega)
    refine xV_istore_n e_X3_goPsalm_22 (Nat.le_of_ble_eq_true rfl) rfl ?_
    refine xV_iload_n e_X3_goPsalm_23 rfl ?_
    refine xV_iload_n e_X3_goPsalm_24 rfl ?_
    refine xV_idiv e_X3_goPsalm_25 (by first | assumption | decide) ?_
    rw [pk_div hro h10.1 (by omega)]
    refine xV_bipush (v := (nI 10)) e_X3_goPsalm_26 (by decide) ?_
    refine xV_irem e_X3_goPsalm_28 (by first | assumption | decide) ?_
    rw [pk_rem (Nat.lt_of_le_of_lt (Nat.div_le_self _ _) hro) (by decide) (by decide)]
    have hd10 : ro / 10 ^ (n - 1 - k) % 10 < 10 := Nat.mod_lt _ (by decide)
    refine xV_istore e_X3_goPsalm_29 (Nat.le_of_ble_eq_true rfl) rfl ?_
    refine xV_aload_n e_X3_goPsalm_31 rfl ?_
    refine xV_iload e_X3_goPsalm_32 rfl ?_
    refine xV_cV1i e_X3_goPsalm_34 c_X3_124 (by assumption) (C_X3_noMonkP hX hmo hB2 hV2 hho2) (Nat.le_of_ble_eq_true rfl) ⟨(Nat.le_of_ble_eq_true rfl), (Nat.le_of_ble_eq_true rfl)⟩ (xle_r _) (xle_r _) ?_
    refine xV_if_neB e_X3_goPsalm_37 (fun h37 => ?_) (fun h37 => ?_)
    · have hlv : bLiv S2.1 (fgs n ro k) = false := by
        cases z : bLiv S2.1 (fgs n ro k)
        · rfl
        · have := bLiv_M z
          unfold fgs at this
          rw [this] at h37
          cases h37
      refine xV_iload e_X3_goPsalm_55 rfl ?_
      exact xV_ireturn e_X3_goPsalm_57 rfl rfl ⟨_, rfl, by rw [bk_l (by omega) hlv], rfl, rfl, P, rfl, by rw [bk_l (by omega) hlv]; exact hp⟩
    · refine xV_aload_n e_X3_goPsalm_40 rfl ?_
      refine xV_getR e_X3_goPsalm_41 f_X3_45 (by assumption) (by assumption) ?_
      refine xV_bipush (v := (nI 53)) e_X3_goPsalm_44 (by decide) ?_
      refine xV_ialdN e_X3_goPsalm_46 (by first | exact xRow.vp (by assumption) | exact xRow.vo (by omega) (by assumption)) (by omega) (by omega) ?_
      refine xV_iload e_X3_goPsalm_47 rfl ?_
      refine xV_cS2i e_X3_goPsalm_49 c_X3_70 (C_X3_hasH) (Nat.le_of_ble_eq_true rfl) ⟨(Nat.le_of_ble_eq_true rfl), (Nat.le_of_ble_eq_true rfl)⟩ (xle_r _) (xle_r _) ?_
      refine xV_if_eqB e_X3_goPsalm_52 (fun h52 => ?_) (fun h52 => ?_)
      · have hdm : ro / 10 ^ (n - 1 - k) % 10 < mo := by
          have q : bMonk S2.1 (nI (ro / 10 ^ (n - 1 - k) % 10)) = true := by simpa using h37
          rw [bMonk_N hB2.1.1 hm4 (by omega)] at q
          exact of_decide_eq_true q
        have hl : hs (S2.1 8) (nI (ro / 10 ^ (n - 1 - k) % 10)) = false := by rw [← hp.2.2.2.2.2.2.1]; exact h52
        have hlv : bLiv S2.1 (fgs n ro k) = true := bl_live hB2 hdm hl
        have hec : (fgs n ro k).toNatClampNeg = ro / 10 ^ (n - 1 - k) % 10 := nI_clamp (by omega)
        have hpr := PR.pray hB2 hV2 hp hdm hl
        refine xV_aload_n e_X3_goPsalm_58 rfl ?_
        refine xV_getR e_X3_goPsalm_59 f_X3_45 (by assumption) (by assumption) ?_
        refine xV_bipush (v := (nI 53)) e_X3_goPsalm_62 (by decide) ?_
        refine xV_ialdN e_X3_goPsalm_64 (by first | exact xRow.vp (by assumption) | exact xRow.vo (by omega) (by assumption)) (by omega) (by omega) ?_
        refine xV_istore e_X3_goPsalm_65 (Nat.le_of_ble_eq_true rfl) rfl ?_
        refine xV_aload_n e_X3_goPsalm_67 rfl ?_
        refine xV_aload_n e_X3_goPsalm_68 rfl ?_
        refine xV_getR e_X3_goPsalm_69 f_X3_45 (by assumption) (by assumption) ?_
        refine xV_iload e_X3_goPsalm_72 rfl ?_
        refine xV_cV2iP e_X3_goPsalm_74 c_X3_145 (by assumption) (K_goPray hX hmo hB2 hV2 hho2 sr ⟨by omega, by omega⟩ hp hdm hl) (Nat.le_of_ble_eq_true rfl) ⟨(Nat.le_of_ble_eq_true rfl), (Nat.le_of_ble_eq_true rfl)⟩ (xle_r _) (xle_r _) (fun r2 R2 L2 J hq => ?_)
        obtain ⟨rfl, rfl, rfl, Q, rfl, hQ⟩ := hq
        refine xV_pop e_X3_goPsalm_77 rfl ?_
        refine xV_aload_n e_X3_goPsalm_78 rfl ?_
        refine xV_getR e_X3_goPsalm_79 f_X3_45 (by assumption) (by assumption) ?_
        refine xV_bipush (v := (nI 53)) e_X3_goPsalm_82 (by decide) ?_
        refine xV_ialdN e_X3_goPsalm_84 (by first | exact xRow.vp (by assumption) | exact xRow.vo (by omega) (by assumption)) (by omega) (by omega) ?_
        refine xV_iload e_X3_goPsalm_85 rfl ?_
        refine xV_icmp_eq e_X3_goPsalm_87 (fun h87 => ?_) (fun h87 => ?_)
        · have hb8 : (gPr mo S2 (fgs n ro k).toNatClampNeg).1 8 = b0 := by
            rw [hec, ← h8, ← hp.2.2.2.2.2.2.1, ← hQ.2.2.2.2.2.2.1]; exact h87
          refine xV_iincN e_X3_goPsalm_93 rfl rfl ?_
          refine xV_goto e_X3_goPsalm_96 ?_
          rw [show n - 1 - k = n - (k + 1) by omega]
          refine xV_sub (xl' := [some (.ref m), some (.int (nI n)), some (.int (nI ro)), some (.int (nI (10 ^ (n - (k + 1))))), some (.int (nI (k + 1))), none, none]) ⟨rfl, rfl, rfl, rfl, rfl, trivial⟩ ?_
          rw [bk_s (by omega) hlv hb8, hec]
          exact ih (by omega) _ _ _ none none (hB2.keep (keep_pr mo S2 _)) hpr.2.1 (hho2.trans (keep_pr mo S2 _).1.symm) (by rw [← hec]; exact hb8) hQ
        · have hb8 : ¬ (gPr mo S2 (fgs n ro k).toNatClampNeg).1 8 = b0 := by
            rw [hec, ← h8, ← hp.2.2.2.2.2.2.1, ← hQ.2.2.2.2.2.2.1]; exact h87
          refine xV_iload e_X3_goPsalm_90 rfl ?_
          exact xV_ireturn e_X3_goPsalm_92 rfl rfl ⟨_, rfl, by rw [bk_b (by omega) hlv hb8], rfl, rfl, Q, rfl, by rw [bk_b (by omega) hlv hb8, hec]; exact hQ⟩
      · have hlv : bLiv S2.1 (fgs n ro k) = false := bl_dead hB2 (by omega) (by rw [← hp.2.2.2.2.2.2.1]; exact h52)
        refine xV_iload e_X3_goPsalm_55 rfl ?_
        exact xV_ireturn e_X3_goPsalm_57 rfl rfl ⟨_, rfl, by rw [bk_l (by omega) hlv], rfl, rfl, P, rfl, by rw [bk_l (by omega) hlv]; exact hp⟩
set_option maxHeartbeats 4000000 in
set_option maxRecDepth 100000 in
theorem K_goPsalm {m mo E : Nat} {S : xS} (hX : XM G T R m) (hmo : I m 5 = nI mo) (hB : GB mo (I (m + 2)) S) (hV : GV mo E S) (hho : I m 4 = S.1 5) (hPg : PR mo S (I (m + 3))) {n ro : Nat} (hn8 : n ≤ 8) (hro : ro < 2 ^ 31) {P : Nat → Int32} : xCon G Y_X3_goPsalm [.ref m, .int (nI n), .int (nI ro)] T R L (va_up I (m + 11) P) ((T, fun o2 R2 L2 I2 => ∃ r, o2 = some (.int r) ∧ (r = (bk mo (S.1 8) (fgs n ro) n 0 S).1 ∧ R2 = R ∧ L2 = L ∧ ∃ Q, I2 = va_up I (m + 11) Q ∧ PR mo (bk mo (S.1 8) (fgs n ro) n 0 S).2 Q))) := by
  obtain ⟨m0, rt, st, rs, ss, rp, sp, rrp, srp, rrs, srs, rb, sb, rk, sk, ri, si, rc, sc, rv, sv, rr, sr⟩ := id hX
  have hm4 := hB.1.2.1
  refine xCon.mk (xl := [some (.ref m), some (.int (nI n)), some (.int (nI ro)), none, none, none, none]) (by decide +kernel) (xle_r _) rfl (Nat.le_of_ble_eq_true rfl) rfl ?_
  refine xV_aload_n e_X3_goPsalm_0 rfl ?_
  refine xV_cV0v e_X3_goPsalm_1 c_X3_151 (by assumption) (C_X3_begin hX) (Nat.le_of_ble_eq_true rfl) ⟨(Nat.le_of_ble_eq_true rfl), (Nat.le_of_ble_eq_true rfl)⟩ (xle_r _) (xle_r _) ?_
  refine xV_iload_n e_X3_goPsalm_4 rfl ?_
  refine xV_cS1i e_X3_goPsalm_5 c_X3_154 (C_X3_ten (by omega)) (Nat.le_of_ble_eq_true rfl) ⟨(Nat.le_of_ble_eq_true rfl), (Nat.le_of_ble_eq_true rfl)⟩ (xle_r _) (xle_r _) ?_
  refine xV_istore_n e_X3_goPsalm_8 (Nat.le_of_ble_eq_true rfl) rfl ?_
  refine xV_iconst (v := (nI 0)) e_X3_goPsalm_9 (by decide) ?_
  refine xV_istore e_X3_goPsalm_10 (Nat.le_of_ble_eq_true rfl) rfl ?_
  exact P_X3_goPsalm_12 hX hmo hm4 hn8 hro 0 (Nat.zero_le _) E S _ none none hB hV hho rfl (hPg.cp hm4)
def uPsalm (mo : Nat) (S : xS) (n ro : Int32) : Int32 := if (decide (nI 1 ≤ n) && decide (n ≤ nI 8)) = true ∧ 0 ≤ ro then qPsalm mo S n.toNatClampNeg ro.toNatClampNeg else (-2)
theorem uPsalm_n {mo : Nat} {S : xS} {n ro : Int32} (h : (decide (nI 1 ≤ n) && decide (n ≤ nI 8)) = false) : uPsalm mo S n ro = -2 := by unfold uPsalm; rw [if_neg (fun y => bl_f h y.1)]
theorem uPsalm_y {mo n ro : Nat} {S : xS} (h1 : 1 ≤ n) (h8 : n ≤ 8) (hro : ro < 2 ^ 31) : uPsalm mo S (nI n) (nI ro) = qPsalm mo S n ro := by
  unfold uPsalm
  rw [if_pos ⟨by rw [decide_eq_true (nI_le h1 (by omega)), decide_eq_true (nI_le h8 (by decide))]; rfl, nI_pos' hro⟩, nI_clamp (by omega), nI_clamp hro]
theorem uPsalm_r {mo n : Nat} {S : xS} {ro : Int32} (h1 : 1 ≤ n) (h8 : n ≤ 8) (h : (decide (0 ≤ ro) && decide (ro < nI (10 ^ n))) = false) : uPsalm mo S (nI n) ro = -2 := by
  have q := p10 h8
  by_cases c : 0 ≤ ro
  · obtain ⟨j, hj, rfl⟩ := nI_of (Int32.not_lt.mpr c)
    rw [uPsalm_y h1 h8 hj]
    unfold qPsalm
    rw [if_neg]
    intro z
    rw [decide_eq_true c, decide_eq_true ((nI_ltI hj (by omega)).mpr ((Nat.div_eq_zero_iff_lt q.1).mp z))] at h
    cases h
  · unfold uPsalm
    rw [if_neg (fun y => c y.2)]
set_option maxHeartbeats 4000000 in
set_option maxRecDepth 100000 in
theorem K_psalmP {m mo E : Nat} {S : xS} (hX : XM G T R m) (hmo : I m 5 = nI mo) (hB : GB mo (I (m + 2)) S) (hV : GV mo E S) (hho : I m 4 = S.1 5) (hPg : PR mo S (I (m + 3))) (h0 : I m 0 = nI 0) {P : Nat → Int32} {n ro : Int32} : xCon G Y_X3_psalm [.ref m, .int n, .int ro] T R L (va_up I (m + 11) P) ((T, fun o2 R2 L2 I2 => ∃ r, o2 = some (.int r) ∧ (r = uPsalm mo S n ro ∧ R2 = R ∧ L2 = L ∧ ∃ Q, I2 = va_up I (m + 11) Q))) := by
  obtain ⟨m0, rt, st, rs, ss, rp, sp, rrp, srp, rrs, srs, rb, sb, rk, sk, ri, si, rc, sc, rv, sv, rr, sr⟩ := id hX
  have hm4 := hB.1.2.1
  refine xCon.mk (xl := [some (.ref m), some (.int n), some (.int ro)]) (by decide +kernel) (xle_r _) rfl (Nat.le_of_ble_eq_true rfl) rfl ?_
  refine xV_aload_n e_X3_psalm_0 rfl ?_
  refine xV_iconst (v := (nI 0)) e_X3_psalm_1 (by decide) ?_
  refine xV_putI e_X3_psalm_2 p_X3_48 (by assumption) ?_
  rw [xst_ownP h0]
  refine xV_iload_n e_X3_psalm_5 rfl ?_
  refine xV_i2l e_X3_psalm_6 ?_
  refine xV_lconst (v := 1) e_X3_psalm_7 (by decide) ?_
  refine xV_ldc2 e_X3_psalm_8 k_X3_60 ?_
  refine xV_cS3i e_X3_psalm_11 c_X3_54 (C_X3_in) (Nat.le_of_ble_eq_true rfl) ⟨(Nat.le_of_ble_eq_true rfl), (Nat.le_of_ble_eq_true rfl)⟩ (xle_r _) (xle_r _) ?_
  rw [bL_N (a := 1) (b := 8) (by decide) (by decide)]
  refine xV_if_eqB e_X3_psalm_14 (fun h14 => ?_) (fun h14 => ?_)
  · refine xV_bipush (v := (-2)) e_X3_psalm_42 (by decide) ?_
    exact xV_ireturn e_X3_psalm_44 rfl rfl ⟨_, rfl, (uPsalm_n h14).symm, rfl, rfl, _, rfl⟩
  · obtain ⟨n, h1n, hn8, rfl⟩ := bL_j (by decide) (by decide) h14
    have h10 := p10 hn8
    refine xV_iload_n e_X3_psalm_17 rfl ?_
    refine xV_i2l e_X3_psalm_18 ?_
    refine xV_lconst (v := 0) e_X3_psalm_19 (by decide) ?_
    refine xV_iload_n e_X3_psalm_20 rfl ?_
    refine xV_cS1i e_X3_psalm_21 c_X3_154 (C_X3_ten (by omega)) (Nat.le_of_ble_eq_true rfl) ⟨(Nat.le_of_ble_eq_true rfl), (Nat.le_of_ble_eq_true rfl)⟩ (xle_r _) (xle_r _) ?_
    refine xV_iconst (v := (nI 1)) e_X3_psalm_24 (by decide) ?_
    refine xV_isub e_X3_psalm_25 ?_
    refine xV_i2l e_X3_psalm_26 ?_
    refine xV_cS3i e_X3_psalm_27 c_X3_54 (C_X3_in) (Nat.le_of_ble_eq_true rfl) ⟨(Nat.le_of_ble_eq_true rfl), (Nat.le_of_ble_eq_true rfl)⟩ (xle_r _) (xle_r _) ?_
    rw [bL_lt (by omega)]
    refine xV_if_eqB e_X3_psalm_30 (fun h30 => ?_) (fun h30 => ?_)
    · refine xV_bipush (v := (-2)) e_X3_psalm_42 (by decide) ?_
      exact xV_ireturn e_X3_psalm_44 rfl rfl ⟨_, rfl, (uPsalm_r h1n hn8 h30).symm, rfl, rfl, _, rfl⟩
    · obtain ⟨j, hj, rfl⟩ := bL_k (by omega) h30
      refine xV_aload_n e_X3_psalm_33 rfl ?_
      refine xV_iload_n e_X3_psalm_34 rfl ?_
      refine xV_iload_n e_X3_psalm_35 rfl ?_
      refine xV_cV2iP e_X3_psalm_36 c_X3_157 (by assumption) (K_goPsalm hX hmo hB hV hho hPg hn8 (by omega)) (Nat.le_of_ble_eq_true rfl) ⟨(Nat.le_of_ble_eq_true rfl), (Nat.le_of_ble_eq_true rfl)⟩ (xle_r _) (xle_r _) (fun r2 R2 L2 J hq => ?_)
      obtain ⟨rfl, rfl, rfl, Q, rfl, hQ⟩ := hq
      refine xV_goto e_X3_psalm_39 ?_
      exact xV_ireturn e_X3_psalm_44 rfl rfl ⟨_, rfl, by rw [uPsalm_y h1n hn8 (by omega), qPsalm, if_pos (Nat.div_eq_of_lt hj)]; rfl, rfl, rfl, _, rfl⟩
theorem K_psalm {m mo E : Nat} {S : xS} (hX : XM G T R m) (hmo : I m 5 = nI mo) (hB : GB mo (I (m + 2)) S) (hV : GV mo E S) (hho : I m 4 = S.1 5) (hPg : PR mo S (I (m + 3))) (h0 : I m 0 = nI 0) {n ro : Int32} : xCon G Y_X3_psalm [.ref m, .int n, .int ro] T R L I (T, fun o2 R2 L2 I2 => ∃ r, o2 = some (.int r) ∧ (r = uPsalm mo S n ro ∧ R2 = R ∧ L2 = L ∧ ∃ Q, I2 = va_up I (m + 11) Q)) := by
  have q := K_psalmP (L := L) (P := I (m + 11)) hX hmo hB hV hho hPg h0 (n := n) (ro := ro)
  rwa [va_up_own] at q
end XMF
