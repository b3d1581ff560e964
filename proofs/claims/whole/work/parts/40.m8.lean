/-! THE MODEL: down, month (wb_: the kit's family of bits) -/
theorem wb_tb (n : Nat) : (lN n).toBitVec = BitVec.ofNat 64 n := rfl
theorem wb_inj {a b : Int64} (h : a.toBitVec = b.toBitVec) : a = b := Int64.toBitVec_inj.mp h
theorem wb_tn {n : Nat} (h : n < 2 ^ 64) : (lN n).toBitVec.toNat = n := by rw [wb_tb, BitVec.toNat_ofNat, Nat.mod_eq_of_lt h]
theorem wb_of (x : Int64) : ∃ n, n < 2 ^ 64 ∧ x = lN n := ⟨x.toBitVec.toNat, x.toBitVec.isLt, wb_inj (by rw [wb_tb]; simp)⟩
theorem wb_cu : ∀ k, k < 64 → ((nI k).toInt64.toUInt64 &&& Int64.toUInt64 63) = UInt64.ofNat k := by decide +kernel
theorem wb_shr {n k : Nat} (hn : n < 2 ^ 64) (hk : k < 64) : ((lN n).toUInt64 >>> ((nI k).toInt64.toUInt64 &&& Int64.toUInt64 63)).toInt64 = lN (n / 2 ^ k) := by
  rw [wb_cu k hk]
  apply wb_inj
  apply BitVec.eq_of_toNat_eq
  show ((lN n).toUInt64 >>> UInt64.ofNat k).toNat = (BitVec.ofNat 64 _).toNat
  have h1 : (UInt64.ofNat k).toNat = k := by
    show (BitVec.ofNat 64 k).toNat = k
    rw [BitVec.toNat_ofNat, Nat.mod_eq_of_lt (by omega)]
  have h2 : (lN n).toUInt64.toNat = n := wb_tn hn
  rw [UInt64.toNat_shiftRight, h1, h2, Nat.mod_eq_of_lt hk, Nat.shiftRight_eq_div_pow, BitVec.toNat_ofNat, Nat.mod_eq_of_lt (Nat.lt_of_le_of_lt (Nat.div_le_self _ _) hn)]
section XMH
variable {G : xG} {T : xT} {R : xR} {L : xL} {I : xI}
theorem GV.edD {mo E : Nat} {se : Nat → Int32} {S : xS} (hB : GB mo se S) (hV : GV mo E S) (hE : E < 2 ^ 30) : GV mo 0 (gEd mo S) ∧ tkS S ≤ tkS (gEd mo S) := by
  have q := PR.day hB hV (PR.pg hB.1.2.1) hE
  exact ⟨q.2.1, q.2.2.2⟩
theorem GV.dy {mo E : Nat} {se : Nat → Int32} {S : xS} (hB : GB mo se S) (hV : GV mo E S) (hE : E < 10000) : GV mo 0 (gDy mo S) :=
  (GV.edD (hB.keep (keep_pa mo (nI 15) S 4)) (GV.pa (set := nI 15) hB hV 4 (Nat.le_refl _)).1 (by omega)).1
set_option maxHeartbeats 4000000 in
set_option maxRecDepth 100000 in
theorem P_X3_down_20 {m mo : Nat} (hX : XM G T R m) (hmo : I m 5 = nI mo) (hm4 : mo ≤ 4) {c : Int32} : ∀ k, k ≤ 31 → ∀ (E2 : Nat) (S2 : xS) (P : Nat → Int32), GB mo (I (m + 2)) S2 → GV mo E2 S2 → E2 < 10000 → I m 4 = S2.1 5 → PR mo S2 P →
    xV G Y_X3_down T (T, fun o2 R2 L2 I2 => ∃ r, o2 = some (.int r) ∧ (r = qDn mo c (31 - k) k S2 ∧ R2 = R ∧ L2 = L ∧ ∃ Q, I2 = va_up I (m + 11) Q)) 20 [some (.ref m), some (.int c), some (.int (nI k))] [] T R L (va_up I (m + 11) P) := by
  obtain ⟨m0, rt, st, rs, ss, rp, sp, rrp, srp, rrs, srs, rb, sb, rk, sk, ri, si, rc, sc, rv, sv, rr, sr⟩ := id hX
  refine xloop 31 (fun k hk0 ih => ?_)
  intro E2 S2 P hB2 hV2 hE2 hho2 hp
  refine xV_iload_n e_X3_down_20 rfl ?_
  refine xV_bipush (v := (nI 30)) e_X3_down_21 (by decide) ?_
  refine xV_icmp_gtN e_X3_down_23 (by omega) (by omega) (fun h23 => ?_) (fun h23 => ?_)
  · obtain rfl : k = 31 := by omega
    refine xV_bipush (v := (-9)) e_X3_down_67 (by decide) ?_
    exact xV_ireturn e_X3_down_69 rfl rfl ⟨_, rfl, rfl, rfl, rfl, _, rfl⟩
  · refine xV_aload_n e_X3_down_26 rfl ?_
    refine xV_getR e_X3_down_27 f_X3_45 (by assumption) (by assumption) ?_
    refine xV_bipush (v := (nI 48)) e_X3_down_30 (by decide) ?_
    refine xV_ialdN e_X3_down_32 (by first | exact xRow.vp (by assumption) | exact xRow.vo (by omega) (by assumption)) (by omega) (by omega) ?_
    refine xV_iload_n e_X3_down_33 rfl ?_
    refine xV_cS2i e_X3_down_34 c_X3_70 (C_X3_hasH) (Nat.le_of_ble_eq_true rfl) ⟨(Nat.le_of_ble_eq_true rfl), (Nat.le_of_ble_eq_true rfl)⟩ (xle_r _) (xle_r _) ?_
    refine xV_if_eqB e_X3_down_37 (fun h37 => ?_) (fun h37 => ?_)
    · refine xV_aload_n e_X3_down_42 rfl ?_
      refine xV_aload_n e_X3_down_43 rfl ?_
      refine xV_getR e_X3_down_44 f_X3_45 (by assumption) (by assumption) ?_
      refine xV_bipush (v := (nI 15)) e_X3_down_47 (by decide) ?_
      refine xV_cV2vP e_X3_down_49 c_X3_168 (by assumption) (K_prayAll hX hmo hB2 hV2 hho2 sr ⟨by omega, by omega⟩ hp) (Nat.le_of_ble_eq_true rfl) ⟨(Nat.le_of_ble_eq_true rfl), (Nat.le_of_ble_eq_true rfl)⟩ (xle_r _) (xle_r _) (fun R2 L2 J hq => ?_)
      obtain ⟨rfl, rfl, Q, rfl, hQ⟩ := hq
      refine xV_aload_n e_X3_down_52 rfl ?_
      refine xV_aload_n e_X3_down_53 rfl ?_
      refine xV_getR e_X3_down_54 f_X3_45 (by assumption) (by assumption) ?_
      refine xV_cV1iP e_X3_down_57 c_X3_148 (by assumption) (K_goDay hX hmo (hB2.keep (keep_pa mo (nI 15) S2 4)) (GV.pa (set := nI 15) hB2 hV2 4 (Nat.le_refl _)).1 (hho2.trans (keep_pa mo (nI 15) S2 4).1.symm) (by omega) sr ⟨by omega, by omega⟩ hQ) (Nat.le_of_ble_eq_true rfl) ⟨(Nat.le_of_ble_eq_true rfl), (Nat.le_of_ble_eq_true rfl)⟩ (xle_r _) (xle_r _) (fun r3 R3 L3 J3 hq3 => ?_)
      obtain ⟨rfl, rfl, rfl, Q3, rfl, hQ3⟩ := hq3
      refine xV_pop e_X3_down_60 rfl ?_
      refine xV_iincN e_X3_down_61 rfl rfl ?_
      refine xV_goto e_X3_down_64 ?_
      rw [qDn_f (by omega) (by rw [← hp.2.2.2.2.2.1]; exact h37)]
      exact ih (by omega) 0 _ _ (hB2.keep (keep_dy mo S2)) (GV.dy hB2 hV2 hE2) (by decide) (hho2.trans (keep_dy mo S2).1.symm) hQ3
    · refine xV_iload_n e_X3_down_40 rfl ?_
      exact xV_ireturn e_X3_down_41 rfl rfl ⟨_, rfl, by rw [qDn_t (by omega) (by rw [← hp.2.2.2.2.2.1]; exact h37)], rfl, rfl, _, rfl⟩
set_option maxHeartbeats 4000000 in
set_option maxRecDepth 100000 in
theorem K_downP {m mo E : Nat} {S : xS} (hX : XM G T R m) (hmo : I m 5 = nI mo) (hB : GB mo (I (m + 2)) S) (hV : GV mo E S) (hho : I m 4 = S.1 5) (hPg : PR mo S (I (m + 3))) (h0 : I m 0 = nI 0) (hE : E < 10000) {P : Nat → Int32} {c : Int32} : xCon G Y_X3_down [.ref m, .int c] T R L (va_up I (m + 11) P) ((T, fun o2 R2 L2 I2 => ∃ r, o2 = some (.int r) ∧ (r = qDown mo S c ∧ R2 = R ∧ L2 = L ∧ ∃ Q, I2 = va_up I (m + 11) Q))) := by
  obtain ⟨m0, rt, st, rs, ss, rp, sp, rrp, srp, rrs, srs, rb, sb, rk, sk, ri, si, rc, sc, rv, sv, rr, sr⟩ := id hX
  have hm4 := hB.1.2.1
  refine xCon.mk (xl := [some (.ref m), some (.int c), none]) (by decide +kernel) (xle_r _) rfl (Nat.le_of_ble_eq_true rfl) rfl ?_
  refine xV_aload_n e_X3_down_0 rfl ?_
  refine xV_iconst (v := (nI 0)) e_X3_down_1 (by decide) ?_
  refine xV_putI e_X3_down_2 p_X3_48 (by assumption) ?_
  rw [xst_ownP h0]
  refine xV_iload_n e_X3_down_5 rfl ?_
  refine xV_cS1i e_X3_down_6 c_X3_114 (C_X3_noCell) (Nat.le_of_ble_eq_true rfl) ⟨(Nat.le_of_ble_eq_true rfl), (Nat.le_of_ble_eq_true rfl)⟩ (xle_r _) (xle_r _) ?_
  refine xV_if_eqB e_X3_down_9 (fun h9 => ?_) (fun h9 => ?_)
  · refine xV_aload_n e_X3_down_14 rfl ?_
    refine xV_cV0v e_X3_down_15 c_X3_151 (by assumption) (C_X3_begin hX) (Nat.le_of_ble_eq_true rfl) ⟨(Nat.le_of_ble_eq_true rfl), (Nat.le_of_ble_eq_true rfl)⟩ (xle_r _) (xle_r _) ?_
    refine xV_iconst (v := (nI 0)) e_X3_down_18 (by decide) ?_
    refine xV_istore_n e_X3_down_19 (Nat.le_of_ble_eq_true rfl) rfl ?_
    rw [show qDown mo S c = qDn mo c (31 - 0) 0 S from if_pos (by simpa using h9)]
    exact P_X3_down_20 hX hmo hm4 0 (Nat.zero_le _) E S _ hB hV hE hho (hPg.cp hm4)
  · refine xV_iconst (v := (-1)) e_X3_down_12 (by decide) ?_
    exact xV_ireturn e_X3_down_13 rfl rfl ⟨_, rfl, by rw [qDown, if_neg (bl_f (by simpa using h9))], rfl, rfl, _, rfl⟩
theorem K_down {m mo E : Nat} {S : xS} (hX : XM G T R m) (hmo : I m 5 = nI mo) (hB : GB mo (I (m + 2)) S) (hV : GV mo E S) (hho : I m 4 = S.1 5) (hPg : PR mo S (I (m + 3))) (h0 : I m 0 = nI 0) (hE : E < 10000) {c : Int32} : xCon G Y_X3_down [.ref m, .int c] T R L I (T, fun o2 R2 L2 I2 => ∃ r, o2 = some (.int r) ∧ (r = qDown mo S c ∧ R2 = R ∧ L2 = L ∧ ∃ Q, I2 = va_up I (m + 11) Q)) := by
  have q := K_downP (L := L) (P := I (m + 11)) hX hmo hB hV hho hPg h0 hE (c := c)
  rwa [va_up_own] at q
theorem tn_cmp {s : Int64} {t : Int32} : 0 ≤ lg_cmp ((s.toUInt64 >>> ((nI 33).toInt64.toUInt64 &&& Int64.toUInt64 63)).toInt64 - (s.toUInt64 >>> ((nI 33).toInt64.toUInt64 &&& Int64.toUInt64 63)).toInt64 / 10 * 10) t.toInt64 ↔ t ≤ tn s := by
  obtain ⟨n, hn, rfl⟩ := wb_of s
  have e : ((lN n).toUInt64 >>> ((nI 33).toInt64.toUInt64 &&& Int64.toUInt64 63)).toInt64 = lN (n / 2 ^ 33) := wb_shr hn (by decide)
  have d10 : (10 : Int64) = lN 10 := by decide
  have hk : n / 2 ^ 33 < 2 ^ 63 := by omega
  have hk2 : n / 2 ^ 33 % 10 < 2 ^ 31 := Nat.lt_of_lt_of_le (Nat.mod_lt _ (by decide)) (by decide)
  unfold tn
  rw [e, d10, pk_lRem hk (by decide) (by decide), lg_cmp_ge, lN_i, ← nI_l hk2, toL_le]
theorem mK_4 {mo : Nat} {se : Nat → Int32} {t : Int32} {X : xS × Int64} (hB : GB mo se X.1) : ∀ n, mo ≤ n → n ≤ 4 → mK mo t X n = mK mo t X mo := by
  intro n
  induction n with
  | zero => intro h _
            obtain rfl : mo = 0 := by omega
            rfl
  | succ n ih =>
    intro h h4
    by_cases e : mo = n + 1
    · rw [e]
    · rw [mK_l ?_, ih (by omega) (by omega)]
      rw [bLiv_N2 (hB.keep (keep_mK mo t X n)) (by omega), decide_eq_false (by omega)]
      rfl
theorem GV_mK {mo E : Nat} {se : Nat → Int32} {t : Int32} {X : xS × Int64} (hB : GB mo se X.1) (hV : GV mo E X.1) : ∀ n, n ≤ 4 → GV mo (E + n) (mK mo t X n).1 := by
  intro n
  induction n with
  | zero => intro _; exact hV
  | succ n ih =>
    intro h4
    have v := ih (by omega)
    cases h1 : bLiv (mK mo t X n).1.1 (nI n)
    · rw [mK_l h1]; exact v.up (by omega)
    · by_cases h2 : t ≤ tn (nx (mK mo t X n).2)
      · rw [mK_n h1 h2]; exact v.up (by omega)
      · rw [mK_y h1 h2]; exact (GV.prD (hB.keep (keep_mK mo t X n)) v n).1
theorem GV_mD {mo E : Nat} {se : Nat → Int32} {t : Int32} {X : xS × Int64} (hB : GB mo se X.1) (hV : GV mo E X.1) (hE : E < 10000) : ∀ n, GV mo E (mD mo t X n).1 := by
  intro n
  induction n with
  | zero => exact hV
  | succ n ih =>
    have hB2 := hB.keep (keep_mD mo t X n)
    have v := GV_mK (t := t) hB2 ih 4 (Nat.le_refl _)
    have e := (GV.edD (hB2.keep (keep_mK mo t (mD mo t X n) 4)) v (by omega)).1
    rw [mD]
    dsimp only
    exact GV.up e (Nat.zero_le _)
set_option maxHeartbeats 4000000 in
set_option maxRecDepth 100000 in
theorem P_X3_month_46 {m mo E dm : Nat} {t : Int32} {X : xS × Int64} (hX : XM G T R m) (hmo : I m 5 = nI mo) (hB : GB mo (I (m + 2)) X.1) (hV : GV mo E X.1) (hE : E < 10000) (hho : I m 4 = X.1.1 5) (hdm : dm ≤ 30) {d : Nat} (hd : d < dm)
    (hout : ∀ Q3, PR mo (mD mo t X (d + 1)).1 Q3 → xV G Y_X3_month T (T, fun o2 R2 L2 I2 => ∃ r, o2 = some (.int r) ∧ (r = (mD mo t X dm).1.1 10 ∧ R2 = R ∧ L2 = xsl L m 14 (mD mo t X dm).2 ∧ ∃ Q, I2 = va_up I (m + 11) Q)) 38 [some (.ref m), some (.int (nI dm)), some (.int t), some (.int (nI (d + 1))), some (.int (nI mo))] [] T R (xsl L m 14 (mD mo t X (d + 1)).2) (va_up I (m + 11) Q3)) :
    ∀ k, k ≤ mo → ∀ P, PR mo (mK mo t (mD mo t X d) k).1 P → xV G Y_X3_month T (T, fun o2 R2 L2 I2 => ∃ r, o2 = some (.int r) ∧ (r = (mD mo t X dm).1.1 10 ∧ R2 = R ∧ L2 = xsl L m 14 (mD mo t X dm).2 ∧ ∃ Q, I2 = va_up I (m + 11) Q)) 46 [some (.ref m), some (.int (nI dm)), some (.int t), some (.int (nI d)), some (.int (nI k))] [] T R (xsl L m 14 (mK mo t (mD mo t X d) k).2) (va_up I (m + 11) P) := by
  obtain ⟨m0, rt, st, rs, ss, rp, sp, rrp, srp, rrs, srs, rb, sb, rk, sk, ri, si, rc, sc, rv, sv, rr, sr⟩ := id hX
  have hm4 := hB.1.2.1
  have hBd := hB.keep (keep_mD mo t X d)
  have hVd := GV_mD (t := t) hB hV hE d
  refine xloop mo (fun k hk0 ih => ?_)
  intro P hp
  have hBk := hBd.keep (keep_mK mo t (mD mo t X d) k)
  have hVk := GV_mK (t := t) hBd hVd k (by omega)
  have hhk : I m 4 = (mK mo t (mD mo t X d) k).1.1 5 := hho.trans ((keep_mD mo t X d).1.symm.trans (keep_mK mo t (mD mo t X d) k).1.symm)
  refine xV_iload e_X3_month_46 rfl ?_
  refine xV_aload_n e_X3_month_48 rfl ?_
  refine xV_getMO e_X3_month_49 f_X3_51 m0 (by omega) hmo ?_
  refine xV_icmp_geN e_X3_month_52 (by omega) (by omega) (fun h52 => ?_) (fun h52 => ?_)
  · obtain rfl : k = mo := by omega
    refine xV_aload_n e_X3_month_120 rfl ?_
    refine xV_aload_n e_X3_month_121 rfl ?_
    refine xV_getR e_X3_month_122 f_X3_45 (by assumption) (by assumption) ?_
    refine xV_cV1iP e_X3_month_125 c_X3_148 (by assumption) (K_goDay hX hmo hBk hVk hhk (by omega) sr ⟨by omega, by omega⟩ hp) (Nat.le_of_ble_eq_true rfl) ⟨(Nat.le_of_ble_eq_true rfl), (Nat.le_of_ble_eq_true rfl)⟩ (xle_r _) (xle_r _) (fun r3 R3 L3 J3 hq3 => ?_)
    obtain ⟨rfl, rfl, rfl, Q3, rfl, hQ3⟩ := hq3
    refine xV_pop e_X3_month_128 rfl ?_
    refine xV_iincN e_X3_month_129 rfl rfl ?_
    refine xV_goto e_X3_month_132 ?_
    have q := hout Q3 (by rw [mD, mK_4 hBd 4 hm4 (Nat.le_refl _)]; exact hQ3)
    rw [mD, mK_4 hBd 4 hm4 (Nat.le_refl _)] at q
    exact q
  · refine xV_aload_n e_X3_month_55 rfl ?_
    refine xV_getR e_X3_month_56 f_X3_45 (by assumption) (by assumption) ?_
    refine xV_bipush (v := (nI 53)) e_X3_month_59 (by decide) ?_
    refine xV_ialdN e_X3_month_61 (by first | exact xRow.vp (by assumption) | exact xRow.vo (by omega) (by assumption)) (by omega) (by omega) ?_
    refine xV_iload e_X3_month_62 rfl ?_
    refine xV_cS2i e_X3_month_64 c_X3_70 (C_X3_hasH) (Nat.le_of_ble_eq_true rfl) ⟨(Nat.le_of_ble_eq_true rfl), (Nat.le_of_ble_eq_true rfl)⟩ (xle_r _) (xle_r _) ?_
    refine xV_if_neB e_X3_month_67 (fun h67 => ?_) (fun h67 => ?_)
    · refine xV_iincN e_X3_month_114 rfl rfl ?_
      refine xV_goto e_X3_month_117 ?_
      have q := ih (by omega) P (by rw [mK_l (X := (mD mo t X d)) (bl_dead hBk (by omega) (by rw [← hp.2.2.2.2.2.2.1]; exact h67))]; exact hp)
      rw [mK_l (X := (mD mo t X d)) (bl_dead hBk (by omega) (by rw [← hp.2.2.2.2.2.2.1]; exact h67))] at q
      exact q
    · refine xV_aload_n e_X3_month_70 rfl ?_
      refine xV_aload_n e_X3_month_71 rfl ?_
      refine xV_getL e_X3_month_72 f_X3_179 (by assumption) ?_
      rw [xsl_s, va_up_s]
      refine xV_ldc2 e_X3_month_75 k_X3_185 ?_
      refine xV_lmul e_X3_month_78 ?_
      refine xV_ldc2 e_X3_month_79 k_X3_187 ?_
      refine xV_ladd e_X3_month_82 ?_
      refine xV_putL e_X3_month_83 p_X3_179 (by assumption) ?_
      rw [xsl_xsl, show (mK mo t (mD mo t X d) k).2 * 6364136223846793005 + 1442695040888963407 = nx (mK mo t (mD mo t X d) k).2 from rfl]
      refine xV_aload_n e_X3_month_86 rfl ?_
      refine xV_getL e_X3_month_87 f_X3_179 (by assumption) ?_
      rw [xsl_s, va_up_s]
      refine xV_bipush (v := (nI 33)) e_X3_month_90 (by decide) ?_
      refine xV_lushr e_X3_month_92 ?_
      refine xV_ldc2 e_X3_month_93 k_X3_174 ?_
      refine xV_lrem e_X3_month_96 (by first | assumption | decide) ?_
      refine xV_iload_n e_X3_month_97 rfl ?_
      refine xV_i2l e_X3_month_98 ?_
      refine xV_lcmp e_X3_month_99 ?_
      refine xV_if_ge e_X3_month_100 (fun h100 => ?_) (fun h100 => ?_)
      · refine xV_iincN e_X3_month_114 rfl rfl ?_
        refine xV_goto e_X3_month_117 ?_
        have q := ih (by omega) P (by rw [mK_n (X := (mD mo t X d)) (bl_live hBk (by omega) (by rw [← hp.2.2.2.2.2.2.1]; exact h67)) (tn_cmp.mp h100)]; exact hp)
        rw [mK_n (X := (mD mo t X d)) (bl_live hBk (by omega) (by rw [← hp.2.2.2.2.2.2.1]; exact h67)) (tn_cmp.mp h100)] at q
        exact q
      · refine xV_aload_n e_X3_month_103 rfl ?_
        refine xV_aload_n e_X3_month_104 rfl ?_
        refine xV_getR e_X3_month_105 f_X3_45 (by assumption) (by assumption) ?_
        refine xV_iload e_X3_month_108 rfl ?_
        refine xV_cV2iP e_X3_month_110 c_X3_145 (by assumption) (K_goPray hX hmo hBk hVk hhk sr ⟨by omega, by omega⟩ hp (by omega) (by rw [← hp.2.2.2.2.2.2.1]; exact h67)) (Nat.le_of_ble_eq_true rfl) ⟨(Nat.le_of_ble_eq_true rfl), (Nat.le_of_ble_eq_true rfl)⟩ (xle_r _) (xle_r _) (fun r2 R2 L2 J hq => ?_)
        obtain ⟨rfl, rfl, rfl, Q, rfl, hQ⟩ := hq
        refine xV_pop e_X3_month_113 rfl ?_
        refine xV_iincN e_X3_month_114 rfl rfl ?_
        refine xV_goto e_X3_month_117 ?_
        have q := ih (by omega) Q (by rw [mK_y (X := (mD mo t X d)) (bl_live hBk (by omega) (by rw [← hp.2.2.2.2.2.2.1]; exact h67)) (fun z => h100 (tn_cmp.mpr z))]; exact hQ)
        rw [mK_y (X := (mD mo t X d)) (bl_live hBk (by omega) (by rw [← hp.2.2.2.2.2.2.1]; exact h67)) (fun z => h100 (tn_cmp.mpr z))] at q
        exact q
set_option maxHeartbeats 4000000 in
set_option maxRecDepth 100000 in
theorem P_X3_month_38 {m mo E dm : Nat} {t : Int32} {X : xS × Int64} (hX : XM G T R m) (hmo : I m 5 = nI mo) (hB : GB mo (I (m + 2)) X.1) (hV : GV mo E X.1) (hE : E < 10000) (hho : I m 4 = X.1.1 5) (hdm : dm ≤ 30) : ∀ k, k ≤ dm → ∀ P, PR mo (mD mo t X k).1 P → ∀ j4 : Option Value, xV G Y_X3_month T (T, fun o2 R2 L2 I2 => ∃ r, o2 = some (.int r) ∧ (r = (mD mo t X dm).1.1 10 ∧ R2 = R ∧ L2 = xsl L m 14 (mD mo t X dm).2 ∧ ∃ Q, I2 = va_up I (m + 11) Q)) 38 [some (.ref m), some (.int (nI dm)), some (.int t), some (.int (nI k)), j4] [] T R (xsl L m 14 (mD mo t X k).2) (va_up I (m + 11) P) := by
  obtain ⟨m0, rt, st, rs, ss, rp, sp, rrp, srp, rrs, srs, rb, sb, rk, sk, ri, si, rc, sc, rv, sv, rr, sr⟩ := id hX
  refine xloop dm (fun k hk0 ih => ?_)
  intro P hp j4
  refine xV_iload_n e_X3_month_38 rfl ?_
  refine xV_iload_n e_X3_month_39 rfl ?_
  refine xV_icmp_geN e_X3_month_40 (by omega) (by omega) (fun h40 => ?_) (fun h40 => ?_)
  · obtain rfl : k = dm := by omega
    refine xV_aload_n e_X3_month_135 rfl ?_
    refine xV_getR e_X3_month_136 f_X3_45 (by assumption) (by assumption) ?_
    refine xV_bipush (v := (nI 54)) e_X3_month_139 (by decide) ?_
    refine xV_ialdN e_X3_month_141 (by first | exact xRow.vp (by assumption) | exact xRow.vo (by omega) (by assumption)) (by omega) (by omega) ?_
    exact xV_ireturn e_X3_month_142 rfl rfl ⟨_, rfl, hp.2.2.2.2.2.2.2.1, rfl, rfl, _, rfl⟩
  · refine xV_iconst (v := (nI 0)) e_X3_month_43 (by decide) ?_
    refine xV_istore e_X3_month_44 (Nat.le_of_ble_eq_true rfl) rfl ?_
    exact P_X3_month_46 hX hmo hB hV hE hho hdm h40 (fun Q3 z => ih (by omega) Q3 z _) 0 (Nat.zero_le _) P hp
def uMonth (mo : Nat) (S : xS) (s : Int64) (v t : Int32) : Int32 × Int64 := if (decide (nI 1 ≤ v) && decide (v ≤ nI 30)) = true ∧ (decide (nI 0 ≤ t) && decide (t ≤ nI 10)) = true then ((mD mo t (S, s) v.toNatClampNeg).1.1 10, (mD mo t (S, s) v.toNatClampNeg).2) else (-2, s)
theorem uMonth_a {mo : Nat} {S : xS} {s : Int64} {v t : Int32} (h : (decide (nI 1 ≤ v) && decide (v ≤ nI 30)) = false) : uMonth mo S s v t = (-2, s) := by unfold uMonth; rw [if_neg (fun y => bl_f h y.1)]
theorem uMonth_b {mo : Nat} {S : xS} {s : Int64} {v t : Int32} (h : (decide (nI 0 ≤ t) && decide (t ≤ nI 10)) = false) : uMonth mo S s v t = (-2, s) := by unfold uMonth; rw [if_neg (fun y => bl_f h y.2)]
theorem uMonth_y {mo j : Nat} {S : xS} {s : Int64} {t : Int32} (h1 : (decide (nI 1 ≤ nI j) && decide (nI j ≤ nI 30)) = true) (h2 : (decide (nI 0 ≤ t) && decide (t ≤ nI 10)) = true) (hj : j ≤ 30) : uMonth mo S s (nI j) t = ((mD mo t (S, s) j).1.1 10, (mD mo t (S, s) j).2) := by
  unfold uMonth; rw [if_pos ⟨h1, h2⟩, nI_clamp (by omega)]
set_option maxHeartbeats 4000000 in
set_option maxRecDepth 100000 in
theorem K_monthP {m mo E : Nat} {S : xS} (hX : XM G T R m) (hmo : I m 5 = nI mo) (hB : GB mo (I (m + 2)) S) (hV : GV mo E S) (hho : I m 4 = S.1 5) (hPg : PR mo S (I (m + 3))) (h0 : I m 0 = nI 0) (hE : E < 10000) {P : Nat → Int32} {vm t : Int32} : xCon G Y_X3_month [.ref m, .int vm, .int t] T R L (va_up I (m + 11) P) ((T, fun o2 R2 L2 I2 => ∃ r, o2 = some (.int r) ∧ (r = (uMonth mo S (L m 14) vm t).1 ∧ R2 = R ∧ L2 = xsl L m 14 (uMonth mo S (L m 14) vm t).2 ∧ ∃ Q, I2 = va_up I (m + 11) Q))) := by
  obtain ⟨m0, rt, st, rs, ss, rp, sp, rrp, srp, rrs, srs, rb, sb, rk, sk, ri, si, rc, sc, rv, sv, rr, sr⟩ := id hX
  have hm4 := hB.1.2.1
  refine xCon.mk (xl := [some (.ref m), some (.int vm), some (.int t), none, none]) (by decide +kernel) (xle_r _) rfl (Nat.le_of_ble_eq_true rfl) rfl ?_
  refine xV_aload_n e_X3_month_0 rfl ?_
  refine xV_iconst (v := (nI 0)) e_X3_month_1 (by decide) ?_
  refine xV_putI e_X3_month_2 p_X3_48 (by assumption) ?_
  rw [xst_ownP h0]
  refine xV_iload_n e_X3_month_5 rfl ?_
  refine xV_i2l e_X3_month_6 ?_
  refine xV_lconst (v := 1) e_X3_month_7 (by decide) ?_
  refine xV_ldc2 e_X3_month_8 k_X3_183 ?_
  refine xV_cS3i e_X3_month_11 c_X3_54 (C_X3_in) (Nat.le_of_ble_eq_true rfl) ⟨(Nat.le_of_ble_eq_true rfl), (Nat.le_of_ble_eq_true rfl)⟩ (xle_r _) (xle_r _) ?_
  rw [bL_N (a := 1) (b := 30) (by decide) (by decide)]
  refine xV_if_eqB e_X3_month_14 (fun h14 => ?_) (fun h14 => ?_)
  · refine xV_bipush (v := (-2)) e_X3_month_29 (by decide) ?_
    exact xV_ireturn e_X3_month_31 rfl rfl ⟨_, rfl, by rw [uMonth_a h14], rfl, by rw [uMonth_a h14]; exact xsl_own.symm, _, rfl⟩
  · refine xV_iload_n e_X3_month_17 rfl ?_
    refine xV_i2l e_X3_month_18 ?_
    refine xV_lconst (v := 0) e_X3_month_19 (by decide) ?_
    refine xV_ldc2 e_X3_month_20 k_X3_174 ?_
    refine xV_cS3i e_X3_month_23 c_X3_54 (C_X3_in) (Nat.le_of_ble_eq_true rfl) ⟨(Nat.le_of_ble_eq_true rfl), (Nat.le_of_ble_eq_true rfl)⟩ (xle_r _) (xle_r _) ?_
    rw [bL_N (a := 0) (b := 10) (by decide) (by decide)]
    refine xV_if_neB e_X3_month_26 (fun h26 => ?_) (fun h26 => ?_)
    · obtain ⟨dm, h1m, hdm, rfl⟩ := bL_j (by decide) (by decide) h14
      refine xV_aload_n e_X3_month_32 rfl ?_
      refine xV_cV0v e_X3_month_33 c_X3_151 (by assumption) (C_X3_begin hX) (Nat.le_of_ble_eq_true rfl) ⟨(Nat.le_of_ble_eq_true rfl), (Nat.le_of_ble_eq_true rfl)⟩ (xle_r _) (xle_r _) ?_
      refine xV_iconst (v := (nI 0)) e_X3_month_36 (by decide) ?_
      refine xV_istore_n e_X3_month_37 (Nat.le_of_ble_eq_true rfl) rfl ?_
      rw [uMonth_y h14 h26 hdm]
      have q := P_X3_month_38 (L := L) (X := (S, L m 14)) (t := t) hX hmo hB hV hE hho hdm 0 (Nat.zero_le _) _ (hPg.cp (P := P) hm4) none
      rw [mD, xsl_own] at q
      exact q
    · refine xV_bipush (v := (-2)) e_X3_month_29 (by decide) ?_
      exact xV_ireturn e_X3_month_31 rfl rfl ⟨_, rfl, by rw [uMonth_b h26], rfl, by rw [uMonth_b h26]; exact xsl_own.symm, _, rfl⟩
theorem K_month {m mo E : Nat} {S : xS} (hX : XM G T R m) (hmo : I m 5 = nI mo) (hB : GB mo (I (m + 2)) S) (hV : GV mo E S) (hho : I m 4 = S.1 5) (hPg : PR mo S (I (m + 3))) (h0 : I m 0 = nI 0) (hE : E < 10000) {vm t : Int32} : xCon G Y_X3_month [.ref m, .int vm, .int t] T R L I (T, fun o2 R2 L2 I2 => ∃ r, o2 = some (.int r) ∧ (r = (uMonth mo S (L m 14) vm t).1 ∧ R2 = R ∧ L2 = xsl L m 14 (uMonth mo S (L m 14) vm t).2 ∧ ∃ Q, I2 = va_up I (m + 11) Q)) := by
  have q := K_monthP (L := L) (P := I (m + 11)) hX hmo hB hV hho hPg h0 hE (vm := vm) (t := t)
  rwa [va_up_own] at q
end XMH
