/-! THE MODEL: oaths -/
section XMJ
variable {G : xG} {T : xT} {R : xR} {L : xL} {I : xI}
/-- a prayer's loosening alone -/
def lnS (mo : Nat) (S : xS) (w : Nat → Int32) (k : Nat) : Nat → Int32 :=
  lsn (xnear (plN S.2.2.2.2.2 k) &&& (S.1 9 ^^^ (-1))) (vForce mo S.1 S.2.2.2.2.2 k) (lsn ((nI 1 <<< (nI (plN S.2.2.2.2.2 k) &&& 31)) &&& (S.1 9 ^^^ (-1))) (nI 2 * vForce mo S.1 S.2.2.2.2.2 k) w 12) 12
def oL (mo : Nat) (S : xS) : Nat → (Nat → Int32)
  | 0 => S.2.2.1
  | k + 1 => if hs (vLiv S.1) (nI k) = true then lnS mo S (oL mo S k) k else oL mo S k
def gOb (mo : Nat) (S : xS) (k : Nat) : xS := (S.1, S.2.1, oL mo S k, S.2.2.2.1, S.2.2.2.2.1, S.2.2.2.2.2)
theorem keep_ob (mo : Nat) (S : xS) (k : Nat) : keepS S (gOb mo S k) := ⟨rfl, rfl, rfl, rfl⟩
theorem oL_t {mo k : Nat} {S : xS} (h : hs (vLiv S.1) (nI k) = true) : oL mo S (k + 1) = lnS mo S (oL mo S k) k := by rw [oL, if_pos h]
theorem oL_f {mo k : Nat} {S : xS} (h : hs (vLiv S.1) (nI k) = false) : oL mo S (k + 1) = oL mo S k := by rw [oL, if_neg (bl_f h)]
theorem gOa_ob (mo : Nat) (S : xS) : ∀ k, (gOa mo S k).1 = S.1 ∧ (gOa mo S k).2.2.1 = oL mo S k ∧ (gOa mo S k).2.2.2.1 = S.2.2.2.1 ∧ (gOa mo S k).2.2.2.2.2 = S.2.2.2.2.2 := by
  intro k
  induction k with
  | zero => exact ⟨rfl, rfl, rfl, rfl⟩
  | succ k ih =>
    obtain ⟨a1, a2, a3, a4⟩ := ih
    cases h : hs (vLiv S.1) (nI k)
    · rw [gOa_f h, oL_f h]; exact ⟨a1, a2, a3, a4⟩
    · rw [gOa_t h, oL_t h]
      unfold gLb lnS
      dsimp only
      rw [a1, a2, a3, a4]
      exact ⟨rfl, rfl, rfl, rfl⟩
theorem oL_4 {mo : Nat} {se : Nat → Int32} {S : xS} (hB : GB mo se S) : ∀ n, mo ≤ n → n ≤ 4 → oL mo S n = oL mo S mo := by
  intro n
  induction n with
  | zero => intro h _
            obtain rfl : mo = 0 := by omega
            rfl
  | succ n ih =>
    intro h h4
    by_cases e : mo = n + 1
    · rw [e]
    · rw [oL_f ?_, ih (by omega) (by omega)]
      rw [hs_liv hB.1.1 hB.1.2.1 (by omega), decide_eq_false (by omega)]
      rfl
theorem oL_fal {mo c : Nat} {S : xS} (hc : c < 12) (h : hs (S.1 9) (nI c) = true) : ∀ k, oL mo S k c = S.2.2.1 c := by
  intro k
  induction k with
  | zero => rfl
  | succ k ih =>
    cases z : hs (vLiv S.1) (nI k)
    · rw [oL_f z, ih]
    · rw [oL_t z]
      unfold lnS
      rw [lsn_off (by rw [hs_and (by omega), hs_not (by omega), h]; simp), lsn_off (by rw [hs_and (by omega), hs_not (by omega), h]; simp), ih]
theorem PR.ln {mo : Nat} {se : Nat → Int32} {S : xS} {P : Nat → Int32} (hB : GB mo se S) (hp : PR mo S P) {mi : Nat} (hmi : mi < mo) : PR mo (S.1, S.2.1, lnS mo S S.2.2.1 mi, S.2.2.2.1, S.2.2.2.2.1, S.2.2.2.2.2) (pLb P (plN S.2.2.2.2.2 mi) (vForce mo S.1 S.2.2.2.2.2 mi)) := by
  have q := hp.lb hB hmi
  have hc := (hB.1.2.2 mi hmi).2
  have hm4 := hB.1.2.1
  obtain ⟨p1, p2, p3, p4, p5, p6, p7, p8, p9⟩ := hp
  refine ⟨fun d hd => by rw [pLb_o hc (by omega)]; exact p1 d hd, fun d hd => ?_, fun d hd => by rw [pLb_o hc (by omega)]; exact p3 d hd, fun d hd => by rw [pLb_o hc (by omega)]; exact p4 d hd, fun j hj => by rw [pLb_o hc (by omega)]; exact p5 j hj,
    by rw [pLb_o hc (by omega)]; exact p6, by rw [pLb_o hc (by omega)]; exact p7, by rw [pLb_o hc (by omega)]; exact p8, by rw [pLb_o hc (by omega)]; exact p9⟩
  have z := q.2.1 d hd
  unfold pEc at z
  rw [upd_n (by omega)] at z
  exact z
theorem PR.ob {mo k : Nat} {se : Nat → Int32} {S : xS} {P : Nat → Int32} (hB : GB mo se S) (hk : k < mo) (hl : hs (vLiv S.1) (nI k) = true) (hp : PR mo (gOb mo S k) P) : PR mo (gOb mo S (k + 1)) (pLb P (plN S.2.2.2.2.2 k) (vForce mo S.1 S.2.2.2.2.2 k)) := by
  have q := PR.ln (hB.keep (keep_ob mo S k)) hp hk
  unfold gOb
  rw [oL_t hl]
  exact q
def sW (mo : Nat) (S : xS) (k : Nat) : Int32 := if vLiv S.1 = 0 then nI 0 else vPw S.1 (oL mo S mo) S.2.2.2.1 k
theorem sW_q {mo : Nat} {se : Nat → Int32} {S : xS} (hB : GB mo se S) : sW mo S 12 = qOaths mo S := by
  obtain ⟨a1, a2, a3, a4⟩ := gOa_ob mo S 4
  unfold sW qOaths
  rw [a1, a2, a3, oL_4 hB 4 hB.1.2.1 (Nat.le_refl _)]
theorem sW_0 {mo : Nat} {S : xS} : sW mo S 0 = nI 0 := by
  unfold sW
  split <;> rfl
theorem sW_a {mo k : Nat} {S : xS} (h : vLiv S.1 = 0) : sW mo S (k + 1) = sW mo S k + nI 0 := by unfold sW; rw [if_pos h, if_pos h]; decide
theorem sW_n {mo k : Nat} {S : xS} (h : ¬ vLiv S.1 = 0) : sW mo S (k + 1) = sW mo S k + mx0 (oL mo S mo k - S.1 5 - S.2.2.2.1 k) := by unfold sW; rw [if_neg h, if_neg h]; rfl
theorem mx_neg : ∀ h, h < 10 → mx0 (nI 0 - nI h - nI 0) = nI 0 := by decide +kernel
theorem sW_fal {mo k E : Nat} {se : Nat → Int32} {S : xS} (hB : GB mo se S) (hV : GV mo E S) (hk : k < 12) (h : ¬ vLiv S.1 = 0) (hf : hs (S.1 9) (nI k) = true) : sW mo S (k + 1) = sW mo S k + nI 0 := by
  obtain ⟨q, hq, hq2⟩ := hB.2.1
  rw [sW_n h, oL_fal hk hf, (hV.2.2.2.2.2.1 k hk hf).1, (hV.2.2.2.2.2.1 k hk hf).2, hq2, mx_neg q (by omega)]
theorem sW_le {mo k : Nat} {S : xS} (h : ¬ vLiv S.1 = 0) (hf : oL mo S mo k - S.1 5 - S.2.2.2.1 k ≤ 0) : sW mo S (k + 1) = sW mo S k + nI 0 := by
  rw [sW_n h]
  unfold mx0
  rw [if_neg (by rw [nI_0]; exact Int32.not_lt.mpr hf)]
theorem sW_gt {mo k : Nat} {S : xS} (h : ¬ vLiv S.1 = 0) (hf : ¬ oL mo S mo k - S.1 5 - S.2.2.2.1 k ≤ 0) : sW mo S (k + 1) = sW mo S k + (oL mo S mo k - S.1 5 - S.2.2.2.1 k) := by
  rw [sW_n h]
  unfold mx0
  rw [if_pos (by rw [nI_0]; exact Int32.not_le.mp hf)]
set_option maxHeartbeats 4000000 in
set_option maxRecDepth 100000 in
theorem P_X3_oaths_64 {m i c : Nat} (hX : XM G T R m) {t : Int32} {P1 : Nat → Int32} (hi : i < 4) (hpl : P1 (49 + i) = nI c) {o : xO} (ho : o.1 = T) {j4 : Option Value}
    (hout : xV G Y_X3_oaths T o 101 [some (.ref m), some (.int (nI i)), some (.int t), some (.int (nI 12)), j4] [] T R L (va_up I (m + 11) (fN (nI c) t P1 12))) : ∀ k, k ≤ 12 → xV G Y_X3_oaths T o 64 [some (.ref m), some (.int (nI i)), some (.int t), some (.int (nI k)), j4] [] T R L (va_up I (m + 11) (fN (nI c) t P1 k)) := by
  obtain ⟨m0, rt, st, rs, ss, rp, sp, rrp, srp, rrs, srs, rb, sb, rk, sk, ri, si, rc, sc, rv, sv, rr, sr⟩ := id hX
  obtain ⟨oT, oP⟩ := o
  subst ho
  refine xloop 12 (fun k hk0 ih => ?_)
  refine xV_iload_n e_X3_oaths_64 rfl ?_
  refine xV_bipush (v := (nI 12)) e_X3_oaths_65 (by decide) ?_
  refine xV_icmp_geN e_X3_oaths_67 (by omega) (by omega) (fun h67 => ?_) (fun h67 => ?_)
  · obtain rfl : k = 12 := by omega
    exact hout
  · refine xV_aload_n e_X3_oaths_70 rfl ?_
    refine xV_getR e_X3_oaths_71 f_X3_45 (by assumption) (by assumption) ?_
    refine xV_bipush (v := (nI 49)) e_X3_oaths_74 (by decide) ?_
    refine xV_iload_n e_X3_oaths_76 rfl ?_
    refine xV_iaddN e_X3_oaths_77 ?_
    refine xV_ialdN e_X3_oaths_78 (by first | exact xRow.vp (by assumption) | exact xRow.vo (by omega) (by assumption)) (by omega) (by omega) ?_
    rw [show fN (nI c) t P1 k (49 + i) = nI c from by rw [fN_o (by omega) k (by omega)]; exact hpl]
    refine xV_iload_n e_X3_oaths_79 rfl ?_
    refine xV_cS2i e_X3_oaths_80 c_X3_121 (C_X3_areNext) (Nat.le_of_ble_eq_true rfl) ⟨(Nat.le_of_ble_eq_true rfl), (Nat.le_of_ble_eq_true rfl)⟩ (xle_r _) (xle_r _) ?_
    refine xV_if_eqB e_X3_oaths_83 (fun h83 => ?_) (fun h83 => ?_)
    · refine xV_iincN e_X3_oaths_95 rfl rfl ?_
      refine xV_goto e_X3_oaths_98 ?_
      have q := ih (by omega)
      rw [fN_f h83] at q
      exact q
    · refine xV_aload_n e_X3_oaths_86 rfl ?_
      refine xV_getR e_X3_oaths_87 f_X3_45 (by assumption) (by assumption) ?_
      refine xV_iload_n e_X3_oaths_90 rfl ?_
      refine xV_iload_n e_X3_oaths_91 rfl ?_
      refine xV_cS3v e_X3_oaths_92 c_X3_131 (C_X3_loosen sr (by omega)) (Nat.le_of_ble_eq_true rfl) ⟨(Nat.le_of_ble_eq_true rfl), (Nat.le_of_ble_eq_true rfl)⟩ (xle_r _) (xle_r _) ?_
      refine xV_iincN e_X3_oaths_95 rfl rfl ?_
      refine xV_goto e_X3_oaths_98 ?_
      have q := ih (by omega)
      rw [fN_t h83] at q
      exact q
set_option maxHeartbeats 4000000 in
set_option maxRecDepth 100000 in
theorem P_X3_oaths_130 {m mo E : Nat} {S : xS} (hX : XM G T R m) (hmo : I m 5 = nI mo) (hB : GB mo (I (m + 2)) S) (hV : GV mo E S) (hho : I m 4 = S.1 5) {P : Nat → Int32} (hp : PR mo (gOb mo S mo) P) : ∀ k, k ≤ 12 → ∀ j4 : Option Value, xV G Y_X3_oaths T (T, fun o2 R2 L2 I2 => ∃ r, o2 = some (.int r) ∧ (r = qOaths mo S ∧ R2 = R ∧ L2 = L ∧ ∃ Q, I2 = va_up I (m + 11) Q)) 130 [some (.ref m), some (.int (vLiv S.1)), some (.int (sW mo S k)), some (.int (nI k)), j4] [] T R L (va_up I (m + 11) P) := by
  obtain ⟨m0, rt, st, rs, ss, rp, sp, rrp, srp, rrs, srs, rb, sb, rk, sk, ri, si, rc, sc, rv, sv, rr, sr⟩ := id hX
  have hm4 := hB.1.2.1
  refine xloop 12 (fun k hk0 ih => ?_)
  intro j4
  refine xV_iload_n e_X3_oaths_130 rfl ?_
  refine xV_bipush (v := (nI 12)) e_X3_oaths_131 (by decide) ?_
  refine xV_icmp_geN e_X3_oaths_133 (by omega) (by omega) (fun h133 => ?_) (fun h133 => ?_)
  · obtain rfl : k = 12 := by omega
    refine xV_iload_n e_X3_oaths_200 rfl ?_
    exact xV_ireturn e_X3_oaths_201 rfl rfl ⟨_, rfl, sW_q hB, rfl, rfl, _, rfl⟩
  · refine xV_aload_n e_X3_oaths_136 rfl ?_
    refine xV_getR e_X3_oaths_137 f_X3_45 (by assumption) (by assumption) ?_
    refine xV_bipush (v := (nI 12)) e_X3_oaths_140 (by decide) ?_
    refine xV_iload_n e_X3_oaths_142 rfl ?_
    refine xV_iaddN e_X3_oaths_143 ?_
    refine xV_ialdN e_X3_oaths_144 (by first | exact xRow.vp (by assumption) | exact xRow.vo (by omega) (by assumption)) (by omega) (by omega) ?_
    rw [show P (12 + k) = oL mo S mo k from hp.2.1 k h133]
    refine xV_aload_n e_X3_oaths_145 rfl ?_
    refine xV_getO e_X3_oaths_146 f_X3_13 m0 (by omega) ?_
    rw [hho]
    refine xV_isub e_X3_oaths_149 ?_
    refine xV_aload_n e_X3_oaths_150 rfl ?_
    refine xV_getR e_X3_oaths_151 f_X3_45 (by assumption) (by assumption) ?_
    refine xV_bipush (v := (nI 24)) e_X3_oaths_154 (by decide) ?_
    refine xV_iload_n e_X3_oaths_156 rfl ?_
    refine xV_iaddN e_X3_oaths_157 ?_
    refine xV_ialdN e_X3_oaths_158 (by first | exact xRow.vp (by assumption) | exact xRow.vo (by omega) (by assumption)) (by omega) (by omega) ?_
    rw [show P (24 + k) = S.2.2.2.1 k from hp.2.2.1 k h133]
    refine xV_isub e_X3_oaths_159 ?_
    refine xV_istore e_X3_oaths_160 (Nat.le_of_ble_eq_true rfl) rfl ?_
    refine xV_iload_n e_X3_oaths_162 rfl ?_
    refine xV_iload_n e_X3_oaths_163 rfl ?_
    refine xV_if_eq e_X3_oaths_164 (fun h164 => ?_) (fun h164 => ?_)
    · refine xV_iconst (v := (nI 0)) e_X3_oaths_191 (by decide) ?_
      refine xV_iadd e_X3_oaths_192 ?_
      refine xV_istore_n e_X3_oaths_193 (Nat.le_of_ble_eq_true rfl) rfl ?_
      refine xV_iincN e_X3_oaths_194 rfl rfl ?_
      refine xV_goto e_X3_oaths_197 ?_
      have q := ih (by omega) (some (.int (oL mo S mo k - S.1 5 - S.2.2.2.1 k)))
      rw [sW_a h164] at q
      exact q
    · refine xV_aload_n e_X3_oaths_167 rfl ?_
      refine xV_getR e_X3_oaths_168 f_X3_45 (by assumption) (by assumption) ?_
      refine xV_bipush (v := (nI 48)) e_X3_oaths_171 (by decide) ?_
      refine xV_ialdN e_X3_oaths_173 (by first | exact xRow.vp (by assumption) | exact xRow.vo (by omega) (by assumption)) (by omega) (by omega) ?_
      refine xV_iload_n e_X3_oaths_174 rfl ?_
      refine xV_cS2i e_X3_oaths_175 c_X3_70 (C_X3_hasH) (Nat.le_of_ble_eq_true rfl) ⟨(Nat.le_of_ble_eq_true rfl), (Nat.le_of_ble_eq_true rfl)⟩ (xle_r _) (xle_r _) ?_
      refine xV_if_neB e_X3_oaths_178 (fun h178 => ?_) (fun h178 => ?_)
      · refine xV_iconst (v := (nI 0)) e_X3_oaths_191 (by decide) ?_
        refine xV_iadd e_X3_oaths_192 ?_
        refine xV_istore_n e_X3_oaths_193 (Nat.le_of_ble_eq_true rfl) rfl ?_
        refine xV_iincN e_X3_oaths_194 rfl rfl ?_
        refine xV_goto e_X3_oaths_197 ?_
        have q := ih (by omega) (some (.int (oL mo S mo k - S.1 5 - S.2.2.2.1 k)))
        rw [sW_fal hB hV h133 h164 (by rw [← (show P 48 = S.1 9 from hp.2.2.2.2.2.1)]; exact h178)] at q
        exact q
      · refine xV_iload e_X3_oaths_181 rfl ?_
        refine xV_if_le e_X3_oaths_183 (fun h183 => ?_) (fun h183 => ?_)
        · refine xV_iconst (v := (nI 0)) e_X3_oaths_191 (by decide) ?_
          refine xV_iadd e_X3_oaths_192 ?_
          refine xV_istore_n e_X3_oaths_193 (Nat.le_of_ble_eq_true rfl) rfl ?_
          refine xV_iincN e_X3_oaths_194 rfl rfl ?_
          refine xV_goto e_X3_oaths_197 ?_
          have q := ih (by omega) (some (.int (oL mo S mo k - S.1 5 - S.2.2.2.1 k)))
          rw [sW_le h164 h183] at q
          exact q
        · refine xV_iload e_X3_oaths_186 rfl ?_
          refine xV_goto e_X3_oaths_188 ?_
          refine xV_iadd e_X3_oaths_192 ?_
          refine xV_istore_n e_X3_oaths_193 (Nat.le_of_ble_eq_true rfl) rfl ?_
          refine xV_iincN e_X3_oaths_194 rfl rfl ?_
          refine xV_goto e_X3_oaths_197 ?_
          have q := ih (by omega) (some (.int (oL mo S mo k - S.1 5 - S.2.2.2.1 k)))
          rw [sW_gt h164 h183] at q
          exact q
set_option maxHeartbeats 4000000 in
set_option maxRecDepth 100000 in
theorem P_X3_oaths_101 {m k : Nat} {o : xO} {J : xI} {j2 j3 j4 : Option Value} (hn : xV G Y_X3_oaths T o 11 [some (.ref m), some (.int (nI (k + 1))), j2, j3, j4] [] T R L J) :
    xV G Y_X3_oaths T o 101 [some (.ref m), some (.int (nI k)), j2, j3, j4] [] T R L J := by
  refine xV_iincN e_X3_oaths_101 rfl rfl ?_
  refine xV_goto e_X3_oaths_104 ?_
  exact hn
set_option maxHeartbeats 4000000 in
set_option maxRecDepth 100000 in
theorem P_X3_oaths_11 {m mo E : Nat} {S : xS} (hX : XM G T R m) (hmo : I m 5 = nI mo) (hB : GB mo (I (m + 2)) S) (hV : GV mo E S) (hho : I m 4 = S.1 5) : ∀ k, k ≤ mo → ∀ P, PR mo (gOb mo S k) P → ∀ j2 j3 j4 : Option Value, xV G Y_X3_oaths T (T, fun o2 R2 L2 I2 => ∃ r, o2 = some (.int r) ∧ (r = qOaths mo S ∧ R2 = R ∧ L2 = L ∧ ∃ Q, I2 = va_up I (m + 11) Q)) 11 [some (.ref m), some (.int (nI k)), j2, j3, j4] [] T R L (va_up I (m + 11) P) := by
  obtain ⟨m0, rt, st, rs, ss, rp, sp, rrp, srp, rrs, srs, rb, sb, rk, sk, ri, si, rc, sc, rv, sv, rr, sr⟩ := id hX
  have hm4 := hB.1.2.1
  refine xloop mo (fun k hk0 ih => ?_)
  intro P hp j2 j3 j4
  refine xV_iload_n e_X3_oaths_11 rfl ?_
  refine xV_aload_n e_X3_oaths_12 rfl ?_
  refine xV_getMO e_X3_oaths_13 f_X3_51 m0 (by omega) hmo ?_
  refine xV_icmp_geN e_X3_oaths_16 (by omega) (by omega) (fun h16 => ?_) (fun h16 => ?_)
  · obtain rfl : k = mo := by omega
    refine xV_iconst (v := (nI 1)) e_X3_oaths_107 (by decide) ?_
    refine xV_aload_n e_X3_oaths_108 rfl ?_
    refine xV_getMO e_X3_oaths_109 f_X3_51 m0 (by omega) hmo ?_
    refine xV_ishl e_X3_oaths_112 ?_
    refine xV_iconst (v := (nI 1)) e_X3_oaths_113 (by decide) ?_
    refine xV_isub e_X3_oaths_114 ?_
    refine xV_aload_n e_X3_oaths_115 rfl ?_
    refine xV_getR e_X3_oaths_116 f_X3_45 (by assumption) (by assumption) ?_
    refine xV_bipush (v := (nI 53)) e_X3_oaths_119 (by decide) ?_
    refine xV_ialdN e_X3_oaths_121 (by first | exact xRow.vp (by assumption) | exact xRow.vo (by omega) (by assumption)) (by omega) (by omega) ?_
    refine xV_iconst (v := (-1)) e_X3_oaths_122 (by decide) ?_
    refine xV_ixor e_X3_oaths_123 ?_
    refine xV_iand e_X3_oaths_124 ?_
    rw [show ((nI 1 <<< (nI k &&& 31)) - nI 1) &&& (P 53 ^^^ (-1)) = vLiv S.1 from by unfold vLiv; rw [hB.1.1, show P 53 = S.1 8 from hp.2.2.2.2.2.2.1]]
    refine xV_istore_n e_X3_oaths_125 (Nat.le_of_ble_eq_true rfl) rfl ?_
    refine xV_iconst (v := (nI 0)) e_X3_oaths_126 (by decide) ?_
    refine xV_istore_n e_X3_oaths_127 (Nat.le_of_ble_eq_true rfl) rfl ?_
    refine xV_iconst (v := (nI 0)) e_X3_oaths_128 (by decide) ?_
    refine xV_istore_n e_X3_oaths_129 (Nat.le_of_ble_eq_true rfl) rfl ?_
    have q := P_X3_oaths_130 (L := L) hX hmo hB hV hho hp 0 (Nat.zero_le _) j4
    rw [sW_0] at q
    exact q
  · refine xV_aload_n e_X3_oaths_19 rfl ?_
    refine xV_getR e_X3_oaths_20 f_X3_45 (by assumption) (by assumption) ?_
    refine xV_bipush (v := (nI 53)) e_X3_oaths_23 (by decide) ?_
    refine xV_ialdN e_X3_oaths_25 (by first | exact xRow.vp (by assumption) | exact xRow.vo (by omega) (by assumption)) (by omega) (by omega) ?_
    refine xV_iload_n e_X3_oaths_26 rfl ?_
    refine xV_cS2i e_X3_oaths_27 c_X3_70 (C_X3_hasH) (Nat.le_of_ble_eq_true rfl) ⟨(Nat.le_of_ble_eq_true rfl), (Nat.le_of_ble_eq_true rfl)⟩ (xle_r _) (xle_r _) ?_
    refine xV_if_neB e_X3_oaths_30 (fun h30 => ?_) (fun h30 => ?_)
    · refine xV_iincN e_X3_oaths_101 rfl rfl ?_
      refine xV_goto e_X3_oaths_104 ?_
      refine ih (by omega) P ?_ j2 j3 j4
      unfold gOb
      rw [oL_f (by rw [hs_liv hB.1.1 hm4 (by omega), ← (show P 53 = S.1 8 from hp.2.2.2.2.2.2.1), h30]; simp)]
      exact hp
    · have hlv : hs (vLiv S.1) (nI k) = true := by rw [hs_liv hB.1.1 hm4 (by omega), ← (show P 53 = S.1 8 from hp.2.2.2.2.2.2.1), h30, decide_eq_true (show k < mo by omega)]; rfl
      have hpk : P (49 + k) = nI (plN S.2.2.2.2.2 k) := by rw [show P (49 + k) = S.2.2.2.2.2 k from hp.2.2.2.2.1 k (by omega)]; exact (hB.1.2.2 k (by omega)).1
      refine xV_aload_n e_X3_oaths_33 rfl ?_
      refine xV_aload_n e_X3_oaths_34 rfl ?_
      refine xV_getR e_X3_oaths_35 f_X3_45 (by assumption) (by assumption) ?_
      refine xV_iload_n e_X3_oaths_38 rfl ?_
      refine xV_cV2i e_X3_oaths_39 c_X3_127 (by assumption) (C_X3_timesOf hX hmo hm4 sr ⟨by omega, by omega⟩ (by omega)) (Nat.le_of_ble_eq_true rfl) ⟨(Nat.le_of_ble_eq_true rfl), (Nat.le_of_ble_eq_true rfl)⟩ (xle_r _) (xle_r _) ?_
      rw [show pTm P (I (m + 2)) k mo = vForce mo S.1 S.2.2.2.2.2 k from pTm_force (hB.keep (keep_ob mo S k)) hp (by omega) (by rw [← hp.2.2.2.2.2.2.1]; exact h30)]
      refine xV_istore_n e_X3_oaths_42 (Nat.le_of_ble_eq_true rfl) rfl ?_
      refine xV_aload_n e_X3_oaths_43 rfl ?_
      refine xV_getR e_X3_oaths_44 f_X3_45 (by assumption) (by assumption) ?_
      refine xV_aload_n e_X3_oaths_47 rfl ?_
      refine xV_getR e_X3_oaths_48 f_X3_45 (by assumption) (by assumption) ?_
      refine xV_bipush (v := (nI 49)) e_X3_oaths_51 (by decide) ?_
      refine xV_iload_n e_X3_oaths_53 rfl ?_
      refine xV_iaddN e_X3_oaths_54 ?_
      refine xV_ialdN e_X3_oaths_55 (by first | exact xRow.vp (by assumption) | exact xRow.vo (by omega) (by assumption)) (by omega) (by omega) ?_
      rw [hpk]
      refine xV_iconst (v := (nI 2)) e_X3_oaths_56 (by decide) ?_
      refine xV_iload_n e_X3_oaths_57 rfl ?_
      refine xV_imul e_X3_oaths_58 ?_
      refine xV_cS3v e_X3_oaths_59 c_X3_131 (C_X3_loosen sr (hB.1.2.2 k (by omega)).2) (Nat.le_of_ble_eq_true rfl) ⟨(Nat.le_of_ble_eq_true rfl), (Nat.le_of_ble_eq_true rfl)⟩ (xle_r _) (xle_r _) ?_
      refine xV_iconst (v := (nI 0)) e_X3_oaths_62 (by decide) ?_
      refine xV_istore_n e_X3_oaths_63 (Nat.le_of_ble_eq_true rfl) rfl ?_
      have hcl := (hB.1.2.2 k (by omega)).2
      refine P_X3_oaths_64 (i := k) (c := (plN S.2.2.2.2.2 k)) (t := (vForce mo S.1 S.2.2.2.2.2 k)) (P1 := pLo P (plN S.2.2.2.2.2 k) (nI 2 * (vForce mo S.1 S.2.2.2.2.2 k))) hX (by omega) (by rw [pLo_o (by omega)]; exact hpk) (by rfl) ?_ 0 (Nat.zero_le _)
      exact P_X3_oaths_101 (ih (by omega) _ (PR.ob hB (by omega) hlv hp) _ _ _)
set_option maxHeartbeats 4000000 in
set_option maxRecDepth 100000 in
theorem K_oathsP {m mo E : Nat} {S : xS} (hX : XM G T R m) (hmo : I m 5 = nI mo) (hB : GB mo (I (m + 2)) S) (hV : GV mo E S) (hho : I m 4 = S.1 5) (hPg : PR mo S (I (m + 3))) (h0 : I m 0 = nI 0) {P : Nat → Int32} : xCon G Y_X3_oaths [.ref m] T R L (va_up I (m + 11) P) ((T, fun o2 R2 L2 I2 => ∃ r, o2 = some (.int r) ∧ (r = qOaths mo S ∧ R2 = R ∧ L2 = L ∧ ∃ Q, I2 = va_up I (m + 11) Q))) := by
  obtain ⟨m0, rt, st, rs, ss, rp, sp, rrp, srp, rrs, srs, rb, sb, rk, sk, ri, si, rc, sc, rv, sv, rr, sr⟩ := id hX
  have hm4 := hB.1.2.1
  refine xCon.mk (xl := [some (.ref m), none, none, none, none]) (by decide +kernel) (xle_r _) rfl (Nat.le_of_ble_eq_true rfl) rfl ?_
  refine xV_aload_n e_X3_oaths_0 rfl ?_
  refine xV_iconst (v := (nI 0)) e_X3_oaths_1 (by decide) ?_
  refine xV_putI e_X3_oaths_2 p_X3_48 (by assumption) ?_
  rw [xst_ownP h0]
  refine xV_aload_n e_X3_oaths_5 rfl ?_
  refine xV_cV0v e_X3_oaths_6 c_X3_151 (by assumption) (C_X3_begin hX) (Nat.le_of_ble_eq_true rfl) ⟨(Nat.le_of_ble_eq_true rfl), (Nat.le_of_ble_eq_true rfl)⟩ (xle_r _) (xle_r _) ?_
  refine xV_iconst (v := (nI 0)) e_X3_oaths_9 (by decide) ?_
  refine xV_istore_n e_X3_oaths_10 (Nat.le_of_ble_eq_true rfl) rfl ?_
  exact P_X3_oaths_11 hX hmo hB hV hho 0 (Nat.zero_le _) _ (hPg.cp hm4) none none none
theorem K_oaths {m mo E : Nat} {S : xS} (hX : XM G T R m) (hmo : I m 5 = nI mo) (hB : GB mo (I (m + 2)) S) (hV : GV mo E S) (hho : I m 4 = S.1 5) (hPg : PR mo S (I (m + 3))) (h0 : I m 0 = nI 0)  : xCon G Y_X3_oaths [.ref m] T R L I (T, fun o2 R2 L2 I2 => ∃ r, o2 = some (.int r) ∧ (r = qOaths mo S ∧ R2 = R ∧ L2 = L ∧ ∃ Q, I2 = va_up I (m + 11) Q)) := by
  have q := K_oathsP (L := L) (P := I (m + 11)) hX hmo hB hV hho hPg h0
  rwa [va_up_own] at q
end XMJ
