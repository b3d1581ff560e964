/-! THE MODEL: a prayer, a day -/
section XMD
variable {G : xG} {T : xT} {R : xR} {L : xL} {I : xI}
def fN (at_ : Int32) (t : Int32) (P : Nat → Int32) : Nat → (Nat → Int32)
  | 0 => P
  | d + 1 => if aN at_ (nI d) = true then pLo (fN at_ t P d) d t else fN at_ t P d
theorem fN_t {q t : Int32} {P : Nat → Int32} {d : Nat} (h : aN q (nI d) = true) : fN q t P (d + 1) = pLo (fN q t P d) d t := by rw [fN, if_pos h]
theorem fN_f {q t : Int32} {P : Nat → Int32} {d : Nat} (h : aN q (nI d) = false) : fN q t P (d + 1) = fN q t P d := by rw [fN, if_neg (by rw [h]; decide)]
/-- what a prayer of strength t at cell c does ahead of its waves; without the echo -/
def pLb (P : Nat → Int32) (c : Nat) (t : Int32) : Nat → Int32 := fN (nI c) t (pLo P c (nI 2 * t)) 12
def pEc (P : Nat → Int32) (c : Nat) : Nat → Int32 := upd P (36 + c) (P (36 + c) + (if hs (P 48) (nI c) = true then nI 0 else nI 1))
def pGo (ho : Int32) (mo : Nat) (se : Nat → Int32) (P : Nat → Int32) (mi c : Nat) : (Nat → Int32) × Int32 := pFl ho mo 13 (pEc (pLb P c (pTm P se mi mo)) c) (nI 0)
def fD (P : Nat → Int32) : Nat → (Nat → Int32)
  | 0 => P
  | c + 1 => upd (pLo (fD P c) c (fD P c (36 + c))) (36 + c) (nI 0)
def pDy (ho : Int32) (mo : Nat) (P : Nat → Int32) : (Nat → Int32) × Int32 := pFl ho mo 13 (fD (upd P 55 (P 55 + nI 1)) 12) (nI 0)
set_option maxHeartbeats 4000000 in
set_option maxRecDepth 100000 in
theorem P_X3_goPray_27 {m mo : Nat} (hX : XM G T R m) (hmo : I m 5 = nI mo) (hm4 : mo ≤ 4) {a : Nat} {P : Nat → Int32} (hsa : xSh G T a = (4, 58)) (ha : m ≠ a ∧ m + 2 ≠ a) {mi c : Nat} {t : Int32} {o : xO} (ho : o.1 = T)
    (hout : xV G Y_X3_goPray T o 57 [some (.ref m), some (.ref a), some (.int (nI mi)), some (.int t), some (.int (nI c)), some (.int (nI 12))] [] T R L (va_up I a (fN (nI c) t P 12))) : ∀ k, k ≤ 12 → xV G Y_X3_goPray T o 27 [some (.ref m), some (.ref a), some (.int (nI mi)), some (.int t), some (.int (nI c)), some (.int (nI k))] [] T R L (va_up I a (fN (nI c) t P k)) := by
  obtain ⟨m0, rt, st, rs, ss, rp, sp, rrp, srp, rrs, srs, rb, sb, rk, sk, ri, si, rc, sc, rv, sv, rr, sr⟩ := id hX
  obtain ⟨oT, oP⟩ := o
  subst ho
  refine xloop 12 (fun k hk0 ih => ?_)
  refine xV_iload e_X3_goPray_27 rfl ?_
  refine xV_bipush (v := (nI 12)) e_X3_goPray_29 (by decide) ?_
  refine xV_icmp_geN e_X3_goPray_31 (by omega) (by omega) (fun h31 => ?_) (fun h31 => ?_)
  · obtain rfl : k = 12 := by omega
    exact hout
  · refine xV_iload e_X3_goPray_34 rfl ?_
    refine xV_iload e_X3_goPray_36 rfl ?_
    refine xV_cS2i e_X3_goPray_38 c_X3_121 (C_X3_areNext) (Nat.le_of_ble_eq_true rfl) ⟨(Nat.le_of_ble_eq_true rfl), (Nat.le_of_ble_eq_true rfl)⟩ (xle_r _) (xle_r _) ?_
    refine xV_if_eqB e_X3_goPray_41 (fun h41 => ?_) (fun h41 => ?_)
    · refine xV_iincN e_X3_goPray_51 rfl rfl ?_
      refine xV_goto e_X3_goPray_54 ?_
      have q := ih (by omega)
      rw [fN_f h41] at q
      exact q
    · refine xV_aload_n e_X3_goPray_44 rfl ?_
      refine xV_iload e_X3_goPray_45 rfl ?_
      refine xV_iload_n e_X3_goPray_47 rfl ?_
      refine xV_cS3v e_X3_goPray_48 c_X3_131 (C_X3_loosen hsa (by omega)) (Nat.le_of_ble_eq_true rfl) ⟨(Nat.le_of_ble_eq_true rfl), (Nat.le_of_ble_eq_true rfl)⟩ (xle_r _) (xle_r _) ?_
      refine xV_iincN e_X3_goPray_51 rfl rfl ?_
      refine xV_goto e_X3_goPray_54 ?_
      have q := ih (by omega)
      rw [fN_t h41] at q
      exact q
set_option maxHeartbeats 4000000 in
set_option maxRecDepth 100000 in
theorem P_X3_goPray_57 {m mo : Nat} (hX : XM G T R m) (hmo : I m 5 = nI mo) (hm4 : mo ≤ 4) {a : Nat} {P : Nat → Int32} (hsa : xSh G T a = (4, 58)) (ha : m ≠ a ∧ m + 2 ≠ a) {mi c : Nat} (hc : c < 12) : xV G Y_X3_goPray T (xD (some (.int (pGo (I m 4) mo (I (m + 2)) P mi c).2)) T R L (va_up I a (pGo (I m 4) mo (I (m + 2)) P mi c).1)) 57 [some (.ref m), some (.ref a), some (.int (nI mi)), some (.int (pTm P (I (m + 2)) mi mo)), some (.int (nI c)), some (.int (nI 12))] [] T R L (va_up I a (pLb P c (pTm P (I (m + 2)) mi mo))) := by
  obtain ⟨m0, rt, st, rs, ss, rp, sp, rrp, srp, rrs, srs, rb, sb, rk, sk, ri, si, rc, sc, rv, sv, rr, sr⟩ := id hX
  refine xV_aload_n e_X3_goPray_57 rfl ?_
  refine xV_bipush (v := (nI 36)) e_X3_goPray_58 (by decide) ?_
  refine xV_iload e_X3_goPray_60 rfl ?_
  refine xV_iaddN e_X3_goPray_62 ?_
  refine xV_dup2 e_X3_goPray_63 rfl rfl ?_
  refine xV_ialdN e_X3_goPray_64 (by first | exact xRow.vp (by assumption) | exact xRow.vo (by omega) (by assumption)) (by omega) (by omega) ?_
  refine xV_aload_n e_X3_goPray_65 rfl ?_
  refine xV_bipush (v := (nI 48)) e_X3_goPray_66 (by decide) ?_
  refine xV_ialdN e_X3_goPray_68 (by first | exact xRow.vp (by assumption) | exact xRow.vo (by omega) (by assumption)) (by omega) (by omega) ?_
  refine xV_iload e_X3_goPray_69 rfl ?_
  refine xV_cS2i e_X3_goPray_71 c_X3_70 (C_X3_hasH) (Nat.le_of_ble_eq_true rfl) ⟨(Nat.le_of_ble_eq_true rfl), (Nat.le_of_ble_eq_true rfl)⟩ (xle_r _) (xle_r _) ?_
  refine xV_if_eqB e_X3_goPray_74 (fun h74 => ?_) (fun h74 => ?_)
  · refine xV_iconst (v := (nI 1)) e_X3_goPray_81 (by decide) ?_
    refine xV_iadd e_X3_goPray_82 ?_
    refine xV_iastP e_X3_goPray_83 (by assumption) (by omega) (by omega) ?_
    rw [show upd (pLb P c (pTm P (I (m + 2)) mi mo)) (36 + c) ((pLb P c (pTm P (I (m + 2)) mi mo)) (36 + c) + nI 1) = pEc (pLb P c (pTm P (I (m + 2)) mi mo)) c from by rw [pEc, if_neg (by rw [h74]; decide)]]
    refine xV_aload_n e_X3_goPray_84 rfl ?_
    refine xV_aload_n e_X3_goPray_85 rfl ?_
    refine xV_cV1i e_X3_goPray_86 c_X3_135 (by assumption) (C_X3_fall hX hmo hm4 hsa ha) (Nat.le_of_ble_eq_true rfl) ⟨(Nat.le_of_ble_eq_true rfl), (Nat.le_of_ble_eq_true rfl)⟩ (xle_r _) (xle_r _) ?_
    exact xV_ireturn e_X3_goPray_89 rfl rfl ⟨rfl, rfl, rfl, rfl⟩
  · refine xV_iconst (v := (nI 0)) e_X3_goPray_77 (by decide) ?_
    refine xV_goto e_X3_goPray_78 ?_
    refine xV_iadd e_X3_goPray_82 ?_
    refine xV_iastP e_X3_goPray_83 (by assumption) (by omega) (by omega) ?_
    rw [show upd (pLb P c (pTm P (I (m + 2)) mi mo)) (36 + c) ((pLb P c (pTm P (I (m + 2)) mi mo)) (36 + c) + nI 0) = pEc (pLb P c (pTm P (I (m + 2)) mi mo)) c from by rw [pEc, if_pos h74]]
    refine xV_aload_n e_X3_goPray_84 rfl ?_
    refine xV_aload_n e_X3_goPray_85 rfl ?_
    refine xV_cV1i e_X3_goPray_86 c_X3_135 (by assumption) (C_X3_fall hX hmo hm4 hsa ha) (Nat.le_of_ble_eq_true rfl) ⟨(Nat.le_of_ble_eq_true rfl), (Nat.le_of_ble_eq_true rfl)⟩ (xle_r _) (xle_r _) ?_
    exact xV_ireturn e_X3_goPray_89 rfl rfl ⟨rfl, rfl, rfl, rfl⟩
set_option maxHeartbeats 4000000 in
set_option maxRecDepth 100000 in
theorem C_X3_goPray {m mo : Nat} (hX : XM G T R m) (hmo : I m 5 = nI mo) (hm4 : mo ≤ 4) {a : Nat} {P : Nat → Int32} (hsa : xSh G T a = (4, 58)) (ha : m ≠ a ∧ m + 2 ≠ a) {mi c : Nat} (hmi : mi < mo) (hc : c < 12) (hp : P (49 + mi) = nI c) : xCon G Y_X3_goPray [.ref m, .ref a, .int (nI mi)] T R L (va_up I a P) (xD (some (.int (pGo (I m 4) mo (I (m + 2)) P mi c).2)) T R L (va_up I a (pGo (I m 4) mo (I (m + 2)) P mi c).1)) := by
  obtain ⟨m0, rt, st, rs, ss, rp, sp, rrp, srp, rrs, srs, rb, sb, rk, sk, ri, si, rc, sc, rv, sv, rr, sr⟩ := id hX
  refine xCon.mk (xl := [some (.ref m), some (.ref a), some (.int (nI mi)), none, none, none]) (by decide +kernel) (xle_r _) rfl (Nat.le_of_ble_eq_true rfl) rfl ?_
  refine xV_aload_n e_X3_goPray_0 rfl ?_
  refine xV_aload_n e_X3_goPray_1 rfl ?_
  refine xV_iload_n e_X3_goPray_2 rfl ?_
  refine xV_cV2i e_X3_goPray_3 c_X3_127 (by assumption) (C_X3_timesOf hX hmo hm4 hsa ha hmi) (Nat.le_of_ble_eq_true rfl) ⟨(Nat.le_of_ble_eq_true rfl), (Nat.le_of_ble_eq_true rfl)⟩ (xle_r _) (xle_r _) ?_
  refine xV_istore_n e_X3_goPray_6 (Nat.le_of_ble_eq_true rfl) rfl ?_
  refine xV_aload_n e_X3_goPray_7 rfl ?_
  refine xV_bipush (v := (nI 49)) e_X3_goPray_8 (by decide) ?_
  refine xV_iload_n e_X3_goPray_10 rfl ?_
  refine xV_iaddN e_X3_goPray_11 ?_
  refine xV_ialdN e_X3_goPray_12 (by first | exact xRow.vp (by assumption) | exact xRow.vo (by omega) (by assumption)) (by omega) (by omega) ?_
  rw [hp]
  refine xV_istore e_X3_goPray_13 (Nat.le_of_ble_eq_true rfl) rfl ?_
  refine xV_aload_n e_X3_goPray_15 rfl ?_
  refine xV_iload e_X3_goPray_16 rfl ?_
  refine xV_iconst (v := (nI 2)) e_X3_goPray_18 (by decide) ?_
  refine xV_iload_n e_X3_goPray_19 rfl ?_
  refine xV_imul e_X3_goPray_20 ?_
  refine xV_cS3v e_X3_goPray_21 c_X3_131 (C_X3_loosen hsa hc) (Nat.le_of_ble_eq_true rfl) ⟨(Nat.le_of_ble_eq_true rfl), (Nat.le_of_ble_eq_true rfl)⟩ (xle_r _) (xle_r _) ?_
  refine xV_iconst (v := (nI 0)) e_X3_goPray_24 (by decide) ?_
  refine xV_istore e_X3_goPray_25 (Nat.le_of_ble_eq_true rfl) rfl ?_
  exact P_X3_goPray_27 hX hmo hm4 hsa ha rfl (P_X3_goPray_57 hX hmo hm4 hsa ha hc) 0 (Nat.zero_le _)
set_option maxHeartbeats 4000000 in
set_option maxRecDepth 100000 in
theorem P_X3_goDay_10 {m mo : Nat} (hX : XM G T R m) (hmo : I m 5 = nI mo) (hm4 : mo ≤ 4) {a : Nat} {P : Nat → Int32} (hsa : xSh G T a = (4, 58)) (ha : m ≠ a ∧ m + 2 ≠ a) : ∀ k, k ≤ 12 → xV G Y_X3_goDay T (xD (some (.int (pDy (I m 4) mo P).2)) T R L (va_up I a (pDy (I m 4) mo P).1)) 10 [some (.ref m), some (.ref a), some (.int (nI k))] [] T R L (va_up I a (fD (upd P 55 (P 55 + nI 1)) k)) := by
  obtain ⟨m0, rt, st, rs, ss, rp, sp, rrp, srp, rrs, srs, rb, sb, rk, sk, ri, si, rc, sc, rv, sv, rr, sr⟩ := id hX
  refine xloop 12 (fun k hk0 ih => ?_)
  refine xV_iload_n e_X3_goDay_10 rfl ?_
  refine xV_bipush (v := (nI 12)) e_X3_goDay_11 (by decide) ?_
  refine xV_icmp_geN e_X3_goDay_13 (by omega) (by omega) (fun h13 => ?_) (fun h13 => ?_)
  · obtain rfl : k = 12 := by omega
    refine xV_aload_n e_X3_goDay_40 rfl ?_
    refine xV_aload_n e_X3_goDay_41 rfl ?_
    refine xV_cV1i e_X3_goDay_42 c_X3_135 (by assumption) (C_X3_fall hX hmo hm4 hsa ha) (Nat.le_of_ble_eq_true rfl) ⟨(Nat.le_of_ble_eq_true rfl), (Nat.le_of_ble_eq_true rfl)⟩ (xle_r _) (xle_r _) ?_
    exact xV_ireturn e_X3_goDay_45 rfl rfl ⟨rfl, rfl, rfl, rfl⟩
  · refine xV_aload_n e_X3_goDay_16 rfl ?_
    refine xV_iload_n e_X3_goDay_17 rfl ?_
    refine xV_aload_n e_X3_goDay_18 rfl ?_
    refine xV_bipush (v := (nI 36)) e_X3_goDay_19 (by decide) ?_
    refine xV_iload_n e_X3_goDay_21 rfl ?_
    refine xV_iaddN e_X3_goDay_22 ?_
    refine xV_ialdN e_X3_goDay_23 (by first | exact xRow.vp (by assumption) | exact xRow.vo (by omega) (by assumption)) (by omega) (by omega) ?_
    refine xV_cS3v e_X3_goDay_24 c_X3_131 (C_X3_loosen hsa (by omega)) (Nat.le_of_ble_eq_true rfl) ⟨(Nat.le_of_ble_eq_true rfl), (Nat.le_of_ble_eq_true rfl)⟩ (xle_r _) (xle_r _) ?_
    refine xV_aload_n e_X3_goDay_27 rfl ?_
    refine xV_bipush (v := (nI 36)) e_X3_goDay_28 (by decide) ?_
    refine xV_iload_n e_X3_goDay_30 rfl ?_
    refine xV_iaddN e_X3_goDay_31 ?_
    refine xV_iconst (v := (nI 0)) e_X3_goDay_32 (by decide) ?_
    refine xV_iastP e_X3_goDay_33 (by assumption) (by omega) (by omega) ?_
    refine xV_iincN e_X3_goDay_34 rfl rfl ?_
    refine xV_goto e_X3_goDay_37 ?_
    exact ih (by omega)
set_option maxHeartbeats 4000000 in
set_option maxRecDepth 100000 in
theorem C_X3_goDay {m mo : Nat} (hX : XM G T R m) (hmo : I m 5 = nI mo) (hm4 : mo ≤ 4) {a : Nat} {P : Nat → Int32} (hsa : xSh G T a = (4, 58)) (ha : m ≠ a ∧ m + 2 ≠ a) : xCon G Y_X3_goDay [.ref m, .ref a] T R L (va_up I a P) (xD (some (.int (pDy (I m 4) mo P).2)) T R L (va_up I a (pDy (I m 4) mo P).1)) := by
  obtain ⟨m0, rt, st, rs, ss, rp, sp, rrp, srp, rrs, srs, rb, sb, rk, sk, ri, si, rc, sc, rv, sv, rr, sr⟩ := id hX
  refine xCon.mk (xl := [some (.ref m), some (.ref a), none]) (by decide +kernel) (xle_r _) rfl (Nat.le_of_ble_eq_true rfl) rfl ?_
  refine xV_aload_n e_X3_goDay_0 rfl ?_
  refine xV_bipush (v := (nI 55)) e_X3_goDay_1 (by decide) ?_
  refine xV_dup2 e_X3_goDay_3 rfl rfl ?_
  refine xV_ialdN e_X3_goDay_4 (by first | exact xRow.vp (by assumption) | exact xRow.vo (by omega) (by assumption)) (by omega) (by omega) ?_
  refine xV_iconst (v := (nI 1)) e_X3_goDay_5 (by decide) ?_
  refine xV_iadd e_X3_goDay_6 ?_
  refine xV_iastP e_X3_goDay_7 (by assumption) (by omega) (by omega) ?_
  refine xV_iconst (v := (nI 0)) e_X3_goDay_8 (by decide) ?_
  refine xV_istore_n e_X3_goDay_9 (Nat.le_of_ble_eq_true rfl) rfl ?_
  exact P_X3_goDay_10 hX hmo hm4 hsa ha 0 (Nat.zero_le _)
/-- where the monks stand -/
def PP (P : Nat → Int32) (mo : Nat) : Prop := ∀ j, j < mo → ∃ c, c < 12 ∧ P (49 + j) = nI c
def plP (P : Nat → Int32) (j : Nat) : Nat := (P (49 + j)).toNatClampNeg
theorem PP.at {P : Nat → Int32} {mo j : Nat} (h : PP P mo) (hj : j < mo) : plP P j < 12 ∧ P (49 + j) = nI (plP P j) := by
  obtain ⟨c, hc, e⟩ := h j hj
  unfold plP
  rw [e, nI_clamp (by omega)]
  exact ⟨hc, rfl⟩
def pAl (ho : Int32) (mo : Nat) (se : Nat → Int32) (set : Int32) (P : Nat → Int32) : Nat → (Nat → Int32)
  | 0 => P
  | j + 1 => if hs set (nI j) = true ∧ hs (pAl ho mo se set P j 53) (nI j) = false then (pGo ho mo se (pAl ho mo se set P j) j (plP (pAl ho mo se set P j) j)).1 else pAl ho mo se set P j
theorem fN_o {q t : Int32} {P : Nat → Int32} {k : Nat} (h : k < 12 ∨ 24 ≤ k) : ∀ n, n ≤ 12 → fN q t P n k = P k := by
  intro n
  induction n with
  | zero => intro _; rfl
  | succ n ih =>
    intro hn
    rw [fN]
    split
    · rw [pLo_o (by omega), ih (by omega)]
    · exact ih (by omega)
theorem fA_o {mo k : Nat} {now : Int32} {P : Nat → Int32} (h : 49 ≤ k) (h2 : k ≠ 53) (h3 : k ≠ 54) : ∀ n, n ≤ 12 → fA mo now P n k = P k := by
  intro n
  induction n with
  | zero => intro _; rfl
  | succ n ih =>
    intro hn
    rw [fA]
    split
    · rw [pMk_o h2]
      unfold pB2 pB1
      rw [upd_n (by omega), upd_n (by omega), upd_n (by omega), upd_n (by omega), upd_n (by omega), upd_n (by omega), ih (by omega)]
    · exact ih (by omega)
theorem pW_o {mo k : Nat} {now : Int32} {P : Nat → Int32} (h : 49 ≤ k) (h2 : k ≠ 53) (h3 : k ≠ 54) : pW mo now P k = P k := by
  unfold pW
  rw [fB_o (by omega), fA_o h h2 h3 12 (Nat.le_refl _)]
theorem pFl_o {ho : Int32} {mo k : Nat} (h : 49 ≤ k) (h2 : k ≠ 53) (h3 : k ≠ 54) : ∀ n (P : Nat → Int32) (al : Int32), (pFl ho mo n P al).1 k = P k := by
  intro n
  induction n with
  | zero => intro P al; rfl
  | succ n ih =>
    intro P al
    rw [pFl]
    split
    · rfl
    · rw [ih, pW_o h h2 h3]
theorem pGo_o {ho : Int32} {mo k mi c : Nat} {se P : Nat → Int32} (h : 49 ≤ k) (h2 : k ≠ 53) (h3 : k ≠ 54) (hc : c < 12) : (pGo ho mo se P mi c).1 k = P k := by
  unfold pGo pEc pLb
  rw [pFl_o h h2 h3, upd_n (by omega), fN_o (by omega) 12 (Nat.le_refl _), pLo_o (by omega)]
theorem PP.al {ho : Int32} {mo : Nat} {se P : Nat → Int32} {set : Int32} (h : PP P mo) : ∀ n, n ≤ mo → mo ≤ 4 → PP (pAl ho mo se set P n) mo := by
  intro n
  induction n with
  | zero => intro _ _; exact h
  | succ n ih =>
    intro hn h4 j hj
    have q := ih (by omega) h4
    rw [pAl]
    split
    · rw [pGo_o (by omega) (by omega) (by omega) (q.at (j := n) (by omega)).1]
      exact q j hj
    · exact q j hj
end XMD
