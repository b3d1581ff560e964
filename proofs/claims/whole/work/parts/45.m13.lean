/-! THE MODEL: acts, undo, slots -/
section XMM
variable {G : xG} {T : xT} {R : xR} {L : xL} {I : xI}
/-- a page copied to a place of a book -/
def cpA (B : Nat → Int32) (f : Nat) (Q : Nat → Int32) (n : Nat) : Nat → Int32 := fun k => if f ≤ k ∧ k < f + n then Q (k - f) else B k
theorem cpA_0 {B Q : Nat → Int32} {f : Nat} : cpA B f Q 0 = B := by funext k; unfold cpA; rw [if_neg (by omega)]
theorem cpA_s {B Q : Nat → Int32} {f n : Nat} : upd (cpA B f Q n) (f + n) (Q n) = cpA B f Q (n + 1) := by
  funext k
  by_cases e : k = f + n
  · subst e; rw [upd_s]; unfold cpA; rw [if_pos (by omega), Nat.add_sub_cancel_left]
  · rw [upd_n e]; unfold cpA; exact if_cg (by omega)
def shB (B : Nat → Int32) (n : Nat) : Nat → Int32 := fun k => if k < n then B (k + 58) else B k
theorem shB_0 {B : Nat → Int32} : shB B 0 = B := by funext k; unfold shB; rw [if_neg (by omega)]
theorem shB_at {B : Nat → Int32} {n : Nat} : shB B n (n + 58) = B (n + 58) := by unfold shB; rw [if_neg (by omega)]
theorem shB_s {B : Nat → Int32} {n : Nat} : upd (shB B n) n (B (n + 58)) = shB B (n + 1) := by
  funext k
  by_cases e : k = n
  · subst e; rw [upd_s]; unfold shB; rw [if_pos (by omega)]
  · rw [upd_n e]; unfold shB; exact if_cg (by omega)
/-- the book behind a note -/
def ntB (na : Nat) (B Q : Nat → Int32) : Nat → Int32 := if na < 14 then cpA B (58 * na) Q 58 else cpA (shB B 754) 754 Q 58
def nt (m na : Nat) (I : xI) : xI := va_up (xst I m 16 (nI (rN na))) (m + 6) (ntB na (I (m + 6)) (I (m + 3)))
theorem nt_o {m na a : Nat} {I : xI} (h : a ≠ m) (h2 : a ≠ m + 6) : nt m na I a = I a := by unfold nt; rw [va_up_n h2, xst_o h]
theorem nt_m {m na : Nat} {I : xI} : nt m na I m = upd (I m) 16 (nI (rN na)) := by unfold nt; rw [va_up_n (by omega), xst_s]
theorem nt_f {m na k : Nat} {I : xI} (h : k ≠ 16) : nt m na I m k = I m k := by rw [nt_m, upd_n h]
theorem nt_b {m na : Nat} {I : xI} : nt m na I (m + 6) = ntB na (I (m + 6)) (I (m + 3)) := by unfold nt; rw [va_up_s]
set_option maxHeartbeats 4000000 in
set_option maxRecDepth 100000 in
theorem P_X3_note_51 {m na : Nat} (hX : XM G T R m) (hna : I m 16 = nI na) (hn14 : na < 14) {B : Nat → Int32} : ∀ k, k ≤ 58 → xV G Y_X3_note T (xD none T R L (va_up (xst I m 16 (nI (na + 1))) (m + 6) (cpA B (58 * na) (I (m + 3)) 58))) 51 [some (.ref m), some (.int (nI k))] [] T R L (va_up I (m + 6) (cpA B (58 * na) (I (m + 3)) k)) := by
  obtain ⟨m0, rt, st, rs, ss, rp, sp, rrp, srp, rrs, srs, rb, sb, rk, sk, ri, si, rc, sc, rv, sv, rr, sr⟩ := id hX
  refine xloop 58 (fun k hk0 ih => ?_)
  refine xV_iload_n e_X3_note_51 rfl ?_
  refine xV_bipush (v := (nI 58)) e_X3_note_52 (by decide) ?_
  refine xV_icmp_geN e_X3_note_54 (by omega) (by omega) (fun h54 => ?_) (fun h54 => ?_)
  · obtain rfl : k = 58 := by omega
    refine xV_aload_n e_X3_note_83 rfl ?_
    refine xV_dup e_X3_note_84 rfl ?_
    refine xV_getO e_X3_note_85 f_X3_108 m0 (by omega) ?_
    rw [hna]
    refine xV_iconst (v := (nI 1)) e_X3_note_88 (by decide) ?_
    refine xV_iaddN e_X3_note_89 ?_
    refine xV_putI e_X3_note_90 p_X3_108 (by assumption) ?_
    rw [xst_va (by omega)]
    exact xV_return e_X3_note_93 rfl rfl ⟨rfl, rfl, rfl, rfl⟩
  · refine xV_aload_n e_X3_note_57 rfl ?_
    refine xV_getR e_X3_note_58 f_X3_29 (by assumption) (by assumption) ?_
    refine xV_bipush (v := (nI 58)) e_X3_note_61 (by decide) ?_
    refine xV_aload_n e_X3_note_63 rfl ?_
    refine xV_getO e_X3_note_64 f_X3_108 m0 (by omega) ?_
    rw [hna]
    refine xV_imulN e_X3_note_67 ?_
    refine xV_iload_n e_X3_note_68 rfl ?_
    refine xV_iaddN e_X3_note_69 ?_
    refine xV_aload_n e_X3_note_70 rfl ?_
    refine xV_getR e_X3_note_71 f_X3_20 (by assumption) (by assumption) ?_
    refine xV_iload_n e_X3_note_74 rfl ?_
    refine xV_ialdN e_X3_note_75 (by first | exact xRow.vp (by assumption) | exact xRow.vo (by omega) (by assumption)) (by omega) (by omega) ?_
    refine xV_iastP e_X3_note_76 (by assumption) (by omega) (by omega) ?_
    refine xV_iincN e_X3_note_77 rfl rfl ?_
    refine xV_goto e_X3_note_80 ?_
    rw [cpA_s]
    exact ih (by omega)
set_option maxHeartbeats 4000000 in
set_option maxRecDepth 100000 in
theorem P_X3_note_11 {m : Nat} (hX : XM G T R m) (hna : I m 16 = nI 14) : ∀ k, k ≤ 754 → xV G Y_X3_note T (xD none T R L (va_up (xst I m 16 (nI 14)) (m + 6) (cpA (shB (I (m + 6)) 754) 754 (I (m + 3)) 58))) 11 [some (.ref m), some (.int (nI k))] [] T R L (va_up I (m + 6) (shB (I (m + 6)) k)) := by
  obtain ⟨m0, rt, st, rs, ss, rp, sp, rrp, srp, rrs, srs, rb, sb, rk, sk, ri, si, rc, sc, rv, sv, rr, sr⟩ := id hX
  refine xloop 754 (fun k hk0 ih => ?_)
  refine xV_iload_n e_X3_note_11 rfl ?_
  refine xV_sipush (v := (nI 754)) e_X3_note_12 (by decide) ?_
  refine xV_icmp_geN e_X3_note_15 (by omega) (by omega) (fun h15 => ?_) (fun h15 => ?_)
  · obtain rfl : k = 754 := by omega
    refine xV_aload_n e_X3_note_39 rfl ?_
    refine xV_dup e_X3_note_40 rfl ?_
    refine xV_getO e_X3_note_41 f_X3_108 m0 (by omega) ?_
    rw [hna]
    refine xV_iconst (v := (nI 1)) e_X3_note_44 (by decide) ?_
    refine xV_isub e_X3_note_45 ?_
    rw [pk_sub (by omega)]
    refine xV_putI e_X3_note_46 p_X3_108 (by assumption) ?_
    refine xV_iconst (v := (nI 0)) e_X3_note_49 (by decide) ?_
    refine xV_istore_n e_X3_note_50 (Nat.le_of_ble_eq_true rfl) rfl ?_
    rw [xst_va (by omega)]
    have q := P_X3_note_51 (L := L) (I := xst I m 16 (nI 13)) (na := 13) (B := shB (I (m + 6)) 754) hX (by rw [xst_s, upd_s]) (by omega) 0 (Nat.zero_le _)
    rw [cpA_0, xst_xst, xst_o (by omega)] at q
    exact q
  · refine xV_aload_n e_X3_note_18 rfl ?_
    refine xV_getR e_X3_note_19 f_X3_29 (by assumption) (by assumption) ?_
    refine xV_iload_n e_X3_note_22 rfl ?_
    refine xV_aload_n e_X3_note_23 rfl ?_
    refine xV_getR e_X3_note_24 f_X3_29 (by assumption) (by assumption) ?_
    refine xV_iload_n e_X3_note_27 rfl ?_
    refine xV_bipush (v := (nI 58)) e_X3_note_28 (by decide) ?_
    refine xV_iaddN e_X3_note_30 ?_
    refine xV_ialdN e_X3_note_31 (by first | exact xRow.vp (by assumption) | exact xRow.vo (by omega) (by assumption)) (by omega) (by omega) ?_
    refine xV_iastP e_X3_note_32 (by assumption) (by omega) (by omega) ?_
    refine xV_iincN e_X3_note_33 rfl rfl ?_
    refine xV_goto e_X3_note_36 ?_
    rw [shB_at, shB_s]
    exact ih (by omega)
set_option maxHeartbeats 4000000 in
set_option maxRecDepth 100000 in
theorem C_X3_note {m na : Nat} (hX : XM G T R m) (hna : I m 16 = nI na) (hn14 : na ≤ 14) : xCon G Y_X3_note [.ref m] T R L I (xD none T R L (nt m na I)) := by
  obtain ⟨m0, rt, st, rs, ss, rp, sp, rrp, srp, rrs, srs, rb, sb, rk, sk, ri, si, rc, sc, rv, sv, rr, sr⟩ := id hX
  refine xCon.mk (xl := [some (.ref m), none]) (by decide +kernel) (xle_r _) rfl (Nat.le_of_ble_eq_true rfl) rfl ?_
  refine xV_aload_n e_X3_note_0 rfl ?_
  refine xV_getI e_X3_note_1 f_X3_108 m0 ?_
  rw [hna]
  refine xV_bipush (v := (nI 14)) e_X3_note_4 (by decide) ?_
  refine xV_icmp_neN e_X3_note_6 (by omega) (by omega) (fun h6 => ?_) (fun h6 => ?_)
  · refine xV_iconst (v := (nI 0)) e_X3_note_49 (by decide) ?_
    refine xV_istore_n e_X3_note_50 (Nat.le_of_ble_eq_true rfl) rfl ?_
    have q := P_X3_note_51 (L := L) (B := I (m + 6)) hX hna (by omega) 0 (Nat.zero_le _)
    rw [cpA_0, va_up_own] at q
    rw [show nt m na I = va_up (xst I m 16 (nI (na + 1))) (m + 6) (cpA (I (m + 6)) (58 * na) (I (m + 3)) 58) from by unfold nt ntB rN; rw [if_pos (by omega), if_pos (by omega)]]
    exact q
  · refine xV_iconst (v := (nI 0)) e_X3_note_9 (by decide) ?_
    refine xV_istore_n e_X3_note_10 (Nat.le_of_ble_eq_true rfl) rfl ?_
    obtain rfl : na = 14 := by omega
    have q := P_X3_note_11 (L := L) hX hna 0 (Nat.zero_le _)
    rw [shB_0, va_up_own] at q
    exact q
theorem C_X3_noOne {m mo E : Nat} {S : xS} (hX : XM G T R m) (hmo : I m 5 = nI mo) (hB : GB mo (I (m + 2)) S) (hV : GV mo E S) (hho : I m 4 = S.1 5) (hPg : PR mo S (I (m + 3))) {v : Int32} : xCon G Y_X3_noOne [.ref m, .int v] T R L I (xD (some (.int (ePray S v))) T R L I) := by
  have q := C_X3_noOneP (L := L) (P := I (m + 11)) (v := v) hX hmo hB hV hho hPg
  rwa [va_up_own] at q
theorem K_goPrayN {m mo E : Nat} {S : xS} (hX : XM G T R m) (hmo : I m 5 = nI mo) (hB : GB mo (I (m + 2)) S) (hV : GV mo E S) (hho : I m 4 = S.1 5) (hPg : PR mo S (I (m + 3))) {na j : Nat} (hj : j < mo) (hl : hs (S.1 8) (nI j) = false) : xCon G Y_X3_goPray [.ref m, .ref (m + 3), .int (nI j)] T R L (nt m na I) (T, fun o2 R2 L2 I2 => ∃ r, o2 = some (.int r) ∧ (r = vPr mo S j ∧ R2 = R ∧ L2 = L ∧ ∃ Q, I2 = va_up (nt m na I) (m + 3) Q ∧ PR mo (gPr mo S j) Q)) := by
  obtain ⟨m0, rt, st, rs, ss, rp, sp, rrp, srp, rrs, srs, rb, sb, rk, sk, ri, si, rc, sc, rv, sv, rr, sr⟩ := id hX
  have e3 : nt m na I (m + 3) = I (m + 3) := nt_o (by omega) (by omega)
  have e2 : nt m na I (m + 2) = I (m + 2) := nt_o (by omega) (by omega)
  have q := K_goPray (L := L) (I := nt m na I) (a := m + 3) (P := nt m na I (m + 3)) hX (by rw [nt_f (by omega)]; exact hmo) (by rw [e2]; exact hB) hV (by rw [nt_f (by omega)]; exact hho) sp ⟨by omega, by omega⟩ (by rw [e3]; exact hPg) hj hl
  rwa [va_up_own] at q
theorem K_goDayN {m mo E : Nat} {S : xS} (hX : XM G T R m) (hmo : I m 5 = nI mo) (hB : GB mo (I (m + 2)) S) (hV : GV mo E S) (hho : I m 4 = S.1 5) (hE : E < 2 ^ 30) (hPg : PR mo S (I (m + 3))) {na : Nat} : xCon G Y_X3_goDay [.ref m, .ref (m + 3)] T R L (nt m na I) (T, fun o2 R2 L2 I2 => ∃ r, o2 = some (.int r) ∧ (r = vEdv mo S ∧ R2 = R ∧ L2 = L ∧ ∃ Q, I2 = va_up (nt m na I) (m + 3) Q ∧ PR mo (gEd mo S) Q)) := by
  obtain ⟨m0, rt, st, rs, ss, rp, sp, rrp, srp, rrs, srs, rb, sb, rk, sk, ri, si, rc, sc, rv, sv, rr, sr⟩ := id hX
  have e3 : nt m na I (m + 3) = I (m + 3) := nt_o (by omega) (by omega)
  have e2 : nt m na I (m + 2) = I (m + 2) := nt_o (by omega) (by omega)
  have q := K_goDay (L := L) (I := nt m na I) (a := m + 3) (P := nt m na I (m + 3)) hX (by rw [nt_f (by omega)]; exact hmo) (by rw [e2]; exact hB) hV (by rw [nt_f (by omega)]; exact hho) hE sp ⟨by omega, by omega⟩ (by rw [e3]; exact hPg)
  rwa [va_up_own] at q
set_option maxHeartbeats 4000000 in
set_option maxRecDepth 100000 in
theorem K_pray {m mo E : Nat} {S : xS} (hX : XM G T R m) (hmo : I m 5 = nI mo) (hB : GB mo (I (m + 2)) S) (hV : GV mo E S) (hho : I m 4 = S.1 5) (hPg : PR mo S (I (m + 3))) (h0 : I m 0 = nI 0) {na : Nat} (hna : I m 16 = nI na) (hn14 : na ≤ 14) {v : Int32} : xCon G Y_X3_pray [.ref m, .int v] T R L I ((T, fun o2 R2 L2 I2 => ∃ r, o2 = some (.int r) ∧ (R2 = R ∧ L2 = L ∧ ((ePray S v = 0 ∧ r = vPr mo S v.toNatClampNeg ∧ ∃ Q, I2 = va_up (nt m na I) (m + 3) Q ∧ PR mo (gPr mo S v.toNatClampNeg) Q) ∨ (¬ ePray S v = 0 ∧ r = ePray S v ∧ I2 = I))))) := by
  obtain ⟨m0, rt, st, rs, ss, rp, sp, rrp, srp, rrs, srs, rb, sb, rk, sk, ri, si, rc, sc, rv, sv, rr, sr⟩ := id hX
  have hm4 := hB.1.2.1
  refine xCon.mk (xl := [some (.ref m), some (.int v), none]) (by decide +kernel) (xle_r _) rfl (Nat.le_of_ble_eq_true rfl) rfl ?_
  refine xV_aload_n e_X3_pray_0 rfl ?_
  refine xV_iconst (v := (nI 0)) e_X3_pray_1 (by decide) ?_
  refine xV_putI e_X3_pray_2 p_X3_48 (by assumption) ?_
  rw [xst_own h0]
  refine xV_aload_n e_X3_pray_5 rfl ?_
  refine xV_iload_n e_X3_pray_6 rfl ?_
  refine xV_cV1i e_X3_pray_7 c_X3_139 (by assumption) (C_X3_noOne hX hmo hB hV hho hPg) (Nat.le_of_ble_eq_true rfl) ⟨(Nat.le_of_ble_eq_true rfl), (Nat.le_of_ble_eq_true rfl)⟩ (xle_r _) (xle_r _) ?_
  refine xV_istore_n e_X3_pray_10 (Nat.le_of_ble_eq_true rfl) rfl ?_
  refine xV_iload_n e_X3_pray_11 rfl ?_
  refine xV_if_eq e_X3_pray_12 (fun h12 => ?_) (fun h12 => ?_)
  · obtain ⟨j, hj, rfl, hl⟩ := ePray_ok hB h12
    refine xV_aload_n e_X3_pray_17 rfl ?_
    refine xV_cV0v e_X3_pray_18 c_X3_142 (by assumption) (C_X3_note hX hna hn14) (Nat.le_of_ble_eq_true rfl) ⟨(Nat.le_of_ble_eq_true rfl), (Nat.le_of_ble_eq_true rfl)⟩ (xle_r _) (xle_r _) ?_
    refine xV_aload_n e_X3_pray_21 rfl ?_
    refine xV_aload_n e_X3_pray_22 rfl ?_
    refine xV_getR e_X3_pray_23 f_X3_20 (by assumption) (by assumption) ?_
    refine xV_iload_n e_X3_pray_26 rfl ?_
    refine xV_cV2iP e_X3_pray_27 c_X3_145 (by assumption) (K_goPrayN hX hmo hB hV hho hPg hj hl) (Nat.le_of_ble_eq_true rfl) ⟨(Nat.le_of_ble_eq_true rfl), (Nat.le_of_ble_eq_true rfl)⟩ (xle_r _) (xle_r _) (fun r2 R2 L2 J hq => ?_)
    obtain ⟨rfl, rfl, rfl, Q, rfl, hQ⟩ := hq
    exact xV_ireturn e_X3_pray_30 rfl rfl ⟨_, rfl, rfl, rfl, Or.inl ⟨h12, by rw [nI_clamp (by omega)], Q, rfl, by rw [nI_clamp (by omega)]; exact hQ⟩⟩
  · refine xV_iload_n e_X3_pray_15 rfl ?_
    exact xV_ireturn e_X3_pray_16 rfl rfl ⟨_, rfl, rfl, rfl, Or.inr ⟨h12, rfl, rfl⟩⟩
set_option maxHeartbeats 4000000 in
set_option maxRecDepth 100000 in
theorem K_day {m mo E : Nat} {S : xS} (hX : XM G T R m) (hmo : I m 5 = nI mo) (hB : GB mo (I (m + 2)) S) (hV : GV mo E S) (hho : I m 4 = S.1 5) (hPg : PR mo S (I (m + 3))) (h0 : I m 0 = nI 0) {na : Nat} (hna : I m 16 = nI na) (hn14 : na ≤ 14) (hE : E < 2 ^ 30) : xCon G Y_X3_day [.ref m] T R L I ((T, fun o2 R2 L2 I2 => ∃ r, o2 = some (.int r) ∧ (R2 = R ∧ L2 = L ∧ (r = vEdv mo S ∧ ∃ Q, I2 = va_up (nt m na I) (m + 3) Q ∧ PR mo (gEd mo S) Q)))) := by
  obtain ⟨m0, rt, st, rs, ss, rp, sp, rrp, srp, rrs, srs, rb, sb, rk, sk, ri, si, rc, sc, rv, sv, rr, sr⟩ := id hX
  have hm4 := hB.1.2.1
  refine xCon.mk (xl := [some (.ref m)]) (by decide +kernel) (xle_r _) rfl (Nat.le_of_ble_eq_true rfl) rfl ?_
  refine xV_aload_n e_X3_day_0 rfl ?_
  refine xV_iconst (v := (nI 0)) e_X3_day_1 (by decide) ?_
  refine xV_putI e_X3_day_2 p_X3_48 (by assumption) ?_
  rw [xst_own h0]
  refine xV_aload_n e_X3_day_5 rfl ?_
  refine xV_cV0v e_X3_day_6 c_X3_142 (by assumption) (C_X3_note hX hna hn14) (Nat.le_of_ble_eq_true rfl) ⟨(Nat.le_of_ble_eq_true rfl), (Nat.le_of_ble_eq_true rfl)⟩ (xle_r _) (xle_r _) ?_
  refine xV_aload_n e_X3_day_9 rfl ?_
  refine xV_aload_n e_X3_day_10 rfl ?_
  refine xV_getR e_X3_day_11 f_X3_20 (by assumption) (by assumption) ?_
  refine xV_cV1iP e_X3_day_14 c_X3_148 (by assumption) (K_goDayN hX hmo hB hV hho hE hPg) (Nat.le_of_ble_eq_true rfl) ⟨(Nat.le_of_ble_eq_true rfl), (Nat.le_of_ble_eq_true rfl)⟩ (xle_r _) (xle_r _) (fun r2 R2 L2 J hq => ?_)
  obtain ⟨rfl, rfl, rfl, Q, rfl, hQ⟩ := hq
  exact xV_ireturn e_X3_day_17 rfl rfl ⟨_, rfl, rfl, rfl, rfl, Q, rfl, hQ⟩
theorem xat_pl {mo j : Nat} {S : xS} (hm : MOK mo S) (hj : j < mo) : xat 4 S.2.2.2.2.2 (nI j) = nI (plN S.2.2.2.2.2 j) := by
  have := hm.2.1
  rw [xatN (by omega) (by decide)]
  exact (hm.2.2 j hj).1
theorem PR.upw3 {mo c : Nat} {S : xS} {P : Nat → Int32} {v : Int32} (hm : mo ≤ 4) (hc : c < 12) (h : PR mo S P) : PR mo (S.1, S.2.1, S.2.2.1, upd S.2.2.2.1 c v, S.2.2.2.2.1, S.2.2.2.2.2) (upd P (24 + c) v) := by
  obtain ⟨p1, p2, p3, p4, p5, p6, p7, p8, p9⟩ := h
  refine ⟨fun d hd => by rw [upd_n (by omega)]; exact p1 d hd, fun d hd => by rw [upd_n (by omega)]; exact p2 d hd, fun d hd => ?_, fun d hd => by rw [upd_n (by omega)]; exact p4 d hd, fun j hj => by rw [upd_n (by omega)]; exact p5 j hj,
    by rw [upd_n (by omega)]; exact p6, by rw [upd_n (by omega)]; exact p7, by rw [upd_n (by omega)]; exact p8, by rw [upd_n (by omega)]; exact p9⟩
  by_cases e : d = c
  · subst e; rw [upd_s]; exact upd_s.symm
  · rw [upd_n (by omega), p3 d hd]; exact (upd_n e).symm
theorem PR.upw2 {mo c : Nat} {S : xS} {P : Nat → Int32} {v : Int32} (hm : mo ≤ 4) (hc : c < 12) (h : PR mo S P) : PR mo (S.1, S.2.1, upd S.2.2.1 c v, S.2.2.2.1, S.2.2.2.2.1, S.2.2.2.2.2) (upd P (12 + c) v) := by
  obtain ⟨p1, p2, p3, p4, p5, p6, p7, p8, p9⟩ := h
  refine ⟨fun d hd => by rw [upd_n (by omega)]; exact p1 d hd, fun d hd => ?_, fun d hd => by rw [upd_n (by omega)]; exact p3 d hd, fun d hd => by rw [upd_n (by omega)]; exact p4 d hd, fun j hj => by rw [upd_n (by omega)]; exact p5 j hj,
    by rw [upd_n (by omega)]; exact p6, by rw [upd_n (by omega)]; exact p7, by rw [upd_n (by omega)]; exact p8, by rw [upd_n (by omega)]; exact p9⟩
  by_cases e : d = c
  · subst e; rw [upd_s]; exact upd_s.symm
  · rw [upd_n (by omega), p2 d hd]; exact (upd_n e).symm
theorem PR.upw5 {mo i : Nat} {S : xS} {P : Nat → Int32} {v : Int32} (hm : mo ≤ 4) (hi : i < mo) (h : PR mo S P) : PR mo (S.1, S.2.1, S.2.2.1, S.2.2.2.1, S.2.2.2.2.1, upd S.2.2.2.2.2 i v) (upd P (49 + i) v) := by
  obtain ⟨p1, p2, p3, p4, p5, p6, p7, p8, p9⟩ := h
  refine ⟨fun d hd => by rw [upd_n (by omega)]; exact p1 d hd, fun d hd => by rw [upd_n (by omega)]; exact p2 d hd, fun d hd => by rw [upd_n (by omega)]; exact p3 d hd, fun d hd => by rw [upd_n (by omega)]; exact p4 d hd, fun j hj => ?_,
    by rw [upd_n (by omega)]; exact p6, by rw [upd_n (by omega)]; exact p7, by rw [upd_n (by omega)]; exact p8, by rw [upd_n (by omega)]; exact p9⟩
  by_cases e : j = i
  · subst e; rw [upd_s]; exact upd_s.symm
  · rw [upd_n (by omega), p5 j hj]; exact (upd_n e).symm
theorem eOath_no {S : xS} {v : Int32} (h : ¬ ePray S v = 0) : eOath S v = ePray S v := by
  unfold eOath
  cases h1 : bMonk S.1 v
  · rw [if_neg (by decide), ePray_u h1]
  · rw [if_pos rfl]
    cases h2 : hs (S.1 8) v
    · exact absurd (ePray_0 h1 h2) h
    · rw [if_neg (fun y => by have := y.1; unfold bLiv at this; rw [h2, Bool.not_true, Bool.and_false] at this; cases this), ePray_l h1 h2]
theorem eOath_f {mo j : Nat} {se : Nat → Int32} {S : xS} (hB : GB mo se S) (hj : j < mo) (hl : hs (S.1 8) (nI j) = false) (hf : hs (S.1 9) (nI (plN S.2.2.2.2.2 j)) = true) : eOath S (nI j) = -3 := by
  have a := bl_live hB hj hl
  unfold eOath
  rw [if_pos (bLiv_M a), if_neg (fun y => by rw [xat_pl hB.1 hj, hf] at y; cases y.2)]
theorem eOath_9 {mo j : Nat} {se : Nat → Int32} {S : xS} (hB : GB mo se S) (hj : j < mo) (hl : hs (S.1 8) (nI j) = false) (hf : hs (S.1 9) (nI (plN S.2.2.2.2.2 j)) = false) (h9 : S.2.2.2.1 (plN S.2.2.2.2.2 j) = nI 9) : eOath S (nI j) = -4 := by
  have a := bl_live hB hj hl
  unfold eOath
  rw [if_pos (bLiv_M a), if_pos ⟨a, by rw [xat_pl hB.1 hj]; exact hf⟩, xat_pl hB.1 hj, xatN (hB.1.2.2 j hj).2 (by decide), h9, if_neg (by decide)]
theorem eOath_0 {mo j E : Nat} {se : Nat → Int32} {S : xS} (hB : GB mo se S) (hV : GV mo E S) (hj : j < mo) (hl : hs (S.1 8) (nI j) = false) (hf : hs (S.1 9) (nI (plN S.2.2.2.2.2 j)) = false) (h9 : ¬ S.2.2.2.1 (plN S.2.2.2.2.2 j) = nI 9) : eOath S (nI j) = 0 := by
  have a := bl_live hB hj hl
  have hc := (hB.1.2.2 j hj).2
  obtain ⟨d, hd, e⟩ := hV.2.2.1 _ hc
  unfold eOath
  rw [if_pos (bLiv_M a), if_pos ⟨a, by rw [xat_pl hB.1 hj]; exact hf⟩, xat_pl hB.1 hj, xatN hc (by decide), if_pos]
  rw [e] at h9 ⊢
  exact nI_lt (by have : d ≠ 9 := fun z => h9 (by rw [z]); omega) (by decide)
theorem gOath_N {mo j : Nat} {S : xS} (hm : MOK mo S) (hj : j < mo) : gOath S (nI j) = (S.1, S.2.1, S.2.2.1, upd S.2.2.2.1 (plN S.2.2.2.2.2 j) (S.2.2.2.1 (plN S.2.2.2.2.2 j) + nI 1), S.2.2.2.2.1, S.2.2.2.2.2) ∧ vOath S (nI j) = S.2.2.2.1 (plN S.2.2.2.2.2 j) + nI 1 := by
  have hc := (hm.2.2 j hj).2
  have e : vOath S (nI j) = S.2.2.2.1 (plN S.2.2.2.2.2 j) + nI 1 := by unfold vOath; rw [xat_pl hm hj, xatN hc (by decide)]
  refine ⟨?_, e⟩
  unfold gOath
  rw [e, xat_pl hm hj, upB_N hc (by decide)]
set_option maxHeartbeats 4000000 in
set_option maxRecDepth 100000 in
theorem K_oath {m mo E : Nat} {S : xS} (hX : XM G T R m) (hmo : I m 5 = nI mo) (hB : GB mo (I (m + 2)) S) (hV : GV mo E S) (hho : I m 4 = S.1 5) (hPg : PR mo S (I (m + 3))) (h0 : I m 0 = nI 0) {na : Nat} (hna : I m 16 = nI na) (hn14 : na ≤ 14) {v : Int32} : xCon G Y_X3_oath [.ref m, .int v] T R L I ((T, fun o2 R2 L2 I2 => ∃ r, o2 = some (.int r) ∧ (R2 = R ∧ L2 = L ∧ ((eOath S v = 0 ∧ r = vOath S v ∧ ∃ Q, I2 = va_up (nt m na I) (m + 3) Q ∧ PR mo (gOath S v) Q) ∨ (¬ eOath S v = 0 ∧ r = eOath S v ∧ I2 = I))))) := by
  obtain ⟨m0, rt, st, rs, ss, rp, sp, rrp, srp, rrs, srs, rb, sb, rk, sk, ri, si, rc, sc, rv, sv, rr, sr⟩ := id hX
  have hm4 := hB.1.2.1
  refine xCon.mk (xl := [some (.ref m), some (.int v), none, none]) (by decide +kernel) (xle_r _) rfl (Nat.le_of_ble_eq_true rfl) rfl ?_
  refine xV_aload_n e_X3_oath_0 rfl ?_
  refine xV_iconst (v := (nI 0)) e_X3_oath_1 (by decide) ?_
  refine xV_putI e_X3_oath_2 p_X3_48 (by assumption) ?_
  rw [xst_own h0]
  refine xV_aload_n e_X3_oath_5 rfl ?_
  refine xV_iload_n e_X3_oath_6 rfl ?_
  refine xV_cV1i e_X3_oath_7 c_X3_139 (by assumption) (C_X3_noOne hX hmo hB hV hho hPg) (Nat.le_of_ble_eq_true rfl) ⟨(Nat.le_of_ble_eq_true rfl), (Nat.le_of_ble_eq_true rfl)⟩ (xle_r _) (xle_r _) ?_
  refine xV_istore_n e_X3_oath_10 (Nat.le_of_ble_eq_true rfl) rfl ?_
  refine xV_iload_n e_X3_oath_11 rfl ?_
  refine xV_if_eq e_X3_oath_12 (fun h12 => ?_) (fun h12 => ?_)
  · obtain ⟨j, hj, rfl, hl⟩ := ePray_ok hB h12
    have hc := (hB.1.2.2 j hj).2
    have hpj : I (m + 3) (49 + j) = nI (plN S.2.2.2.2.2 j) := by rw [hPg.2.2.2.2.1 j hj]; exact (hB.1.2.2 j hj).1
    refine xV_aload_n e_X3_oath_17 rfl ?_
    refine xV_getR e_X3_oath_18 f_X3_20 (by assumption) (by assumption) ?_
    refine xV_bipush (v := (nI 49)) e_X3_oath_21 (by decide) ?_
    refine xV_iload_n e_X3_oath_23 rfl ?_
    refine xV_iaddN e_X3_oath_24 ?_
    refine xV_ialdN e_X3_oath_25 (by exact xRow.of (by assumption)) (by omega) (by omega) ?_
    rw [hpj]
    refine xV_istore_n e_X3_oath_26 (Nat.le_of_ble_eq_true rfl) rfl ?_
    refine xV_aload_n e_X3_oath_27 rfl ?_
    refine xV_getR e_X3_oath_28 f_X3_20 (by assumption) (by assumption) ?_
    refine xV_bipush (v := (nI 48)) e_X3_oath_31 (by decide) ?_
    refine xV_ialdN e_X3_oath_33 (by exact xRow.of (by assumption)) (by omega) (by omega) ?_
    refine xV_iload_n e_X3_oath_34 rfl ?_
    refine xV_cS2i e_X3_oath_35 c_X3_70 (C_X3_hasH) (Nat.le_of_ble_eq_true rfl) ⟨(Nat.le_of_ble_eq_true rfl), (Nat.le_of_ble_eq_true rfl)⟩ (xle_r _) (xle_r _) ?_
    refine xV_if_eqB e_X3_oath_38 (fun h38 => ?_) (fun h38 => ?_)
    · have hf : hs (S.1 9) (nI (plN S.2.2.2.2.2 j)) = false := by rw [← hPg.2.2.2.2.2.1]; exact h38
      refine xV_aload_n e_X3_oath_44 rfl ?_
      refine xV_getR e_X3_oath_45 f_X3_20 (by assumption) (by assumption) ?_
      refine xV_bipush (v := (nI 24)) e_X3_oath_48 (by decide) ?_
      refine xV_iload_n e_X3_oath_50 rfl ?_
      refine xV_iaddN e_X3_oath_51 ?_
      refine xV_ialdN e_X3_oath_52 (by exact xRow.of (by assumption)) (by omega) (by omega) ?_
      refine xV_bipush (v := (nI 9)) e_X3_oath_53 (by decide) ?_
      refine xV_icmp_ne e_X3_oath_55 (fun h55 => ?_) (fun h55 => ?_)
      · refine xV_aload_n e_X3_oath_61 rfl ?_
        refine xV_cV0v e_X3_oath_62 c_X3_142 (by assumption) (C_X3_note hX hna hn14) (Nat.le_of_ble_eq_true rfl) ⟨(Nat.le_of_ble_eq_true rfl), (Nat.le_of_ble_eq_true rfl)⟩ (xle_r _) (xle_r _) ?_
        refine xV_aload_n e_X3_oath_65 rfl ?_
        refine xV_getR e_X3_oath_66 f_X3_20 (by assumption) (by assumption) ?_
        refine xV_bipush (v := (nI 24)) e_X3_oath_69 (by decide) ?_
        refine xV_iload_n e_X3_oath_71 rfl ?_
        refine xV_iaddN e_X3_oath_72 ?_
        refine xV_dup2 e_X3_oath_73 rfl rfl ?_
        refine xV_ialdN e_X3_oath_74 (by exact xRow.of (by assumption)) (by omega) (by omega) ?_
        refine xV_iconst (v := (nI 1)) e_X3_oath_75 (by decide) ?_
        refine xV_iadd e_X3_oath_76 ?_
        refine xV_iastN e_X3_oath_77 (by assumption) (by omega) (by omega) ?_
        obtain ⟨g1, g2⟩ := gOath_N hB.1 hj
        have e3 : nt m na I (m + 3) = I (m + 3) := nt_o (by omega) (by omega)
        have hQ := PR.upw3 (v := S.2.2.2.1 (plN S.2.2.2.2.2 j) + nI 1) hm4 hc hPg
        rw [e3, hPg.2.2.1 _ hc, show xst (nt m na I) (m + 3) (24 + plN S.2.2.2.2.2 j) (S.2.2.2.1 (plN S.2.2.2.2.2 j) + nI 1) = va_up (nt m na I) (m + 3) (upd (I (m + 3)) (24 + plN S.2.2.2.2.2 j) (S.2.2.2.1 (plN S.2.2.2.2.2 j) + nI 1)) from by unfold xst; rw [e3]]
        refine xV_aload_n e_X3_oath_78 rfl ?_
        refine xV_getR e_X3_oath_79 f_X3_20 (by assumption) (by assumption) ?_
        refine xV_bipush (v := (nI 24)) e_X3_oath_82 (by decide) ?_
        refine xV_iload_n e_X3_oath_84 rfl ?_
        refine xV_iaddN e_X3_oath_85 ?_
        refine xV_ialdN e_X3_oath_86 (by exact xRow.of (by assumption)) (by omega) (by omega) ?_
        rw [va_up_s, upd_s]
        exact xV_ireturn e_X3_oath_87 rfl rfl ⟨_, rfl, rfl, rfl, Or.inl ⟨eOath_0 hB hV hj hl hf (by rw [← hPg.2.2.1 _ hc]; exact h55), g2.symm, _, rfl, by rw [g1]; exact hQ⟩⟩
      · refine xV_bipush (v := (-4)) e_X3_oath_58 (by decide) ?_
        exact xV_ireturn e_X3_oath_60 rfl rfl ⟨_, rfl, rfl, rfl, Or.inr ⟨by rw [eOath_9 hB hj hl hf (by rw [← hPg.2.2.1 _ hc]; exact h55)]; decide, (eOath_9 hB hj hl hf (by rw [← hPg.2.2.1 _ hc]; exact h55)).symm, rfl⟩⟩
    · have hf : hs (S.1 9) (nI (plN S.2.2.2.2.2 j)) = true := by rw [← hPg.2.2.2.2.2.1]; exact h38
      refine xV_bipush (v := (-3)) e_X3_oath_41 (by decide) ?_
      exact xV_ireturn e_X3_oath_43 rfl rfl ⟨_, rfl, rfl, rfl, Or.inr ⟨by rw [eOath_f hB hj hl hf]; decide, (eOath_f hB hj hl hf).symm, rfl⟩⟩
  · refine xV_iload_n e_X3_oath_15 rfl ?_
    exact xV_ireturn e_X3_oath_16 rfl rfl ⟨_, rfl, rfl, rfl, Or.inr ⟨by rw [eOath_no h12]; exact h12, (eOath_no h12).symm, rfl⟩⟩
theorem ePray_b {S : xS} {v : Int32} : ePray S v = ePray S v := rfl
theorem vDoubt_N {mo j E : Nat} {se : Nat → Int32} {S : xS} (hB : GB mo se S) (hV : GV mo E S) (hj : j < mo) :
    (0 < S.2.2.1 (plN S.2.2.2.2.2 j) → vDoubt S (nI j) = S.2.2.1 (plN S.2.2.2.2.2 j) - nI 1) ∧ (¬ 0 < S.2.2.1 (plN S.2.2.2.2.2 j) → vDoubt S (nI j) = S.2.2.1 (plN S.2.2.2.2.2 j) - nI 0) ∧
    gDoubt S (nI j) = (S.1, S.2.1, upd S.2.2.1 (plN S.2.2.2.2.2 j) (vDoubt S (nI j)), S.2.2.2.1, S.2.2.2.2.1, S.2.2.2.2.2) := by
  have hc := (hB.1.2.2 j hj).2
  obtain ⟨d, hd, e⟩ := hV.2.2.2.1 _ hc
  have u : ∀ d, d < 100 → (0 < nI d → (if nI 0 < nI d - nI 1 then nI d - nI 1 else nI 0) = nI d - nI 1) ∧ (¬ 0 < nI d → (if nI 0 < nI d - nI 1 then nI d - nI 1 else nI 0) = nI d - nI 0) := by decide +kernel
  have ev : vDoubt S (nI j) = if nI 0 < nI d - nI 1 then nI d - nI 1 else nI 0 := by unfold vDoubt; rw [xat_pl hB.1 hj, xatN hc (by decide), e]
  refine ⟨fun z => ?_, fun z => ?_, ?_⟩
  · rw [ev, e]; rw [e] at z; exact (u d (by omega)).1 z
  · rw [ev, e]; rw [e] at z; exact (u d (by omega)).2 z
  · unfold gDoubt
    rw [xat_pl hB.1 hj, upB_N hc (by decide)]
set_option maxHeartbeats 4000000 in
set_option maxRecDepth 100000 in
theorem K_doubt {m mo E : Nat} {S : xS} (hX : XM G T R m) (hmo : I m 5 = nI mo) (hB : GB mo (I (m + 2)) S) (hV : GV mo E S) (hho : I m 4 = S.1 5) (hPg : PR mo S (I (m + 3))) (h0 : I m 0 = nI 0) {na : Nat} (hna : I m 16 = nI na) (hn14 : na ≤ 14) {v : Int32} : xCon G Y_X3_doubt [.ref m, .int v] T R L I ((T, fun o2 R2 L2 I2 => ∃ r, o2 = some (.int r) ∧ (R2 = R ∧ L2 = L ∧ ((ePray S v = 0 ∧ r = vDoubt S v ∧ ∃ Q, I2 = va_up (nt m na I) (m + 3) Q ∧ PR mo (gDoubt S v) Q) ∨ (¬ ePray S v = 0 ∧ r = ePray S v ∧ I2 = I))))) := by
  obtain ⟨m0, rt, st, rs, ss, rp, sp, rrp, srp, rrs, srs, rb, sb, rk, sk, ri, si, rc, sc, rv, sv, rr, sr⟩ := id hX
  have hm4 := hB.1.2.1
  refine xCon.mk (xl := [some (.ref m), some (.int v), none, none]) (by decide +kernel) (xle_r _) rfl (Nat.le_of_ble_eq_true rfl) rfl ?_
  refine xV_aload_n e_X3_doubt_0 rfl ?_
  refine xV_iconst (v := (nI 0)) e_X3_doubt_1 (by decide) ?_
  refine xV_putI e_X3_doubt_2 p_X3_48 (by assumption) ?_
  rw [xst_own h0]
  refine xV_aload_n e_X3_doubt_5 rfl ?_
  refine xV_iload_n e_X3_doubt_6 rfl ?_
  refine xV_cV1i e_X3_doubt_7 c_X3_139 (by assumption) (C_X3_noOne hX hmo hB hV hho hPg) (Nat.le_of_ble_eq_true rfl) ⟨(Nat.le_of_ble_eq_true rfl), (Nat.le_of_ble_eq_true rfl)⟩ (xle_r _) (xle_r _) ?_
  refine xV_istore_n e_X3_doubt_10 (Nat.le_of_ble_eq_true rfl) rfl ?_
  refine xV_iload_n e_X3_doubt_11 rfl ?_
  refine xV_if_eq e_X3_doubt_12 (fun h12 => ?_) (fun h12 => ?_)
  · obtain ⟨j, hj, rfl, hl⟩ := ePray_ok hB h12
    have hc := (hB.1.2.2 j hj).2
    have hpj : I (m + 3) (49 + j) = nI (plN S.2.2.2.2.2 j) := by rw [hPg.2.2.2.2.1 j hj]; exact (hB.1.2.2 j hj).1
    have e3 : nt m na I (m + 3) = I (m + 3) := nt_o (by omega) (by omega)
    refine xV_aload_n e_X3_doubt_17 rfl ?_
    refine xV_cV0v e_X3_doubt_18 c_X3_142 (by assumption) (C_X3_note hX hna hn14) (Nat.le_of_ble_eq_true rfl) ⟨(Nat.le_of_ble_eq_true rfl), (Nat.le_of_ble_eq_true rfl)⟩ (xle_r _) (xle_r _) ?_
    refine xV_bipush (v := (nI 12)) e_X3_doubt_21 (by decide) ?_
    refine xV_aload_n e_X3_doubt_23 rfl ?_
    refine xV_getR e_X3_doubt_24 f_X3_20 (by assumption) (by assumption) ?_
    refine xV_bipush (v := (nI 49)) e_X3_doubt_27 (by decide) ?_
    refine xV_iload_n e_X3_doubt_29 rfl ?_
    refine xV_iaddN e_X3_doubt_30 ?_
    refine xV_ialdN e_X3_doubt_31 (by exact xRow.of (by assumption)) (by omega) (by omega) ?_
    rw [e3, hpj]
    refine xV_iaddN e_X3_doubt_32 ?_
    refine xV_istore_n e_X3_doubt_33 (Nat.le_of_ble_eq_true rfl) rfl ?_
    refine xV_aload_n e_X3_doubt_34 rfl ?_
    refine xV_getR e_X3_doubt_35 f_X3_20 (by assumption) (by assumption) ?_
    refine xV_iload_n e_X3_doubt_38 rfl ?_
    refine xV_dup2 e_X3_doubt_39 rfl rfl ?_
    refine xV_ialdN e_X3_doubt_40 (by exact xRow.of (by assumption)) (by omega) (by omega) ?_
    rw [e3]
    refine xV_aload_n e_X3_doubt_41 rfl ?_
    refine xV_getR e_X3_doubt_42 f_X3_20 (by assumption) (by assumption) ?_
    refine xV_iload_n e_X3_doubt_45 rfl ?_
    refine xV_ialdN e_X3_doubt_46 (by exact xRow.of (by assumption)) (by omega) (by omega) ?_
    rw [e3]
    refine xV_if_le e_X3_doubt_47 (fun h47 => ?_) (fun h47 => ?_)
    · refine xV_iconst (v := (nI 0)) e_X3_doubt_54 (by decide) ?_
      refine xV_isub e_X3_doubt_55 ?_
      refine xV_iastN e_X3_doubt_56 (by assumption) (by omega) (by omega) ?_
      obtain ⟨u1, u2, u3⟩ := vDoubt_N hB hV hj
      have hQ := PR.upw2 (v := vDoubt S (nI j)) hm4 hc hPg
      rw [hPg.2.1 _ hc, ← u2 (by rw [← hPg.2.1 _ hc]; exact Int32.not_lt.mpr h47), show xst (nt m na I) (m + 3) (12 + plN S.2.2.2.2.2 j) (vDoubt S (nI j)) = va_up (nt m na I) (m + 3) (upd (I (m + 3)) (12 + plN S.2.2.2.2.2 j) (vDoubt S (nI j))) from by unfold xst; rw [e3]]
      refine xV_aload_n e_X3_doubt_57 rfl ?_
      refine xV_getR e_X3_doubt_58 f_X3_20 (by assumption) (by assumption) ?_
      refine xV_iload_n e_X3_doubt_61 rfl ?_
      refine xV_ialdN e_X3_doubt_62 (by exact xRow.of (by assumption)) (by omega) (by omega) ?_
      rw [va_up_s, upd_s]
      exact xV_ireturn e_X3_doubt_63 rfl rfl ⟨_, rfl, rfl, rfl, Or.inl ⟨h12, rfl, _, rfl, by rw [u3]; exact hQ⟩⟩
    · refine xV_iconst (v := (nI 1)) e_X3_doubt_50 (by decide) ?_
      refine xV_goto e_X3_doubt_51 ?_
      refine xV_isub e_X3_doubt_55 ?_
      refine xV_iastN e_X3_doubt_56 (by assumption) (by omega) (by omega) ?_
      obtain ⟨u1, u2, u3⟩ := vDoubt_N hB hV hj
      have hQ := PR.upw2 (v := vDoubt S (nI j)) hm4 hc hPg
      rw [hPg.2.1 _ hc, ← u1 (by rw [← hPg.2.1 _ hc]; exact Int32.not_le.mp h47), show xst (nt m na I) (m + 3) (12 + plN S.2.2.2.2.2 j) (vDoubt S (nI j)) = va_up (nt m na I) (m + 3) (upd (I (m + 3)) (12 + plN S.2.2.2.2.2 j) (vDoubt S (nI j))) from by unfold xst; rw [e3]]
      refine xV_aload_n e_X3_doubt_57 rfl ?_
      refine xV_getR e_X3_doubt_58 f_X3_20 (by assumption) (by assumption) ?_
      refine xV_iload_n e_X3_doubt_61 rfl ?_
      refine xV_ialdN e_X3_doubt_62 (by exact xRow.of (by assumption)) (by omega) (by omega) ?_
      rw [va_up_s, upd_s]
      exact xV_ireturn e_X3_doubt_63 rfl rfl ⟨_, rfl, rfl, rfl, Or.inl ⟨h12, rfl, _, rfl, by rw [u3]; exact hQ⟩⟩
  · refine xV_iload_n e_X3_doubt_15 rfl ?_
    exact xV_ireturn e_X3_doubt_16 rfl rfl ⟨_, rfl, rfl, rfl, Or.inr ⟨h12, rfl, rfl⟩⟩
theorem eWalk_u {S : xS} {v c : Int32} (h : bMonk S.1 v = false ∨ bCell c = false) : eWalk S v c = -1 := by
  unfold eWalk
  rw [if_neg]
  rintro ⟨a, d⟩
  rcases h with h | h
  · rw [h] at a; cases a
  · rw [h] at d; cases d
theorem eWalk_j {mo j d : Nat} {se : Nat → Int32} {S : xS} (hB : GB mo se S) (hj : j < mo) (hd : d < 12) : eWalk S (nI j) (nI d) = if hs (S.1 8) (nI j) = false ∧ aN (S.2.2.2.2.2 j) (nI d) = true then 0 else -3 := by
  have hm4 := hB.1.2.1
  obtain ⟨w1, w2⟩ := hB.1.2.2 j hj
  have bm : bMonk S.1 (nI j) = true := by rw [bMonk_N hB.1.1 hm4 (by omega), decide_eq_true hj]
  have bc : bCell (nI d) = true := by unfold bCell; rw [decide_eq_true (nI_pos' (by omega)), decide_eq_true (nI_lt hd (by decide))]; rfl
  have e : hs (xat 12 xnear (xat 4 S.2.2.2.2.2 (nI j))) (nI d) = aN (S.2.2.2.2.2 j) (nI d) := by rw [xat_pl hB.1 hj, xatN w2 (by decide), w1]; exact (aN_near _ w2 d hd).symm
  unfold eWalk
  rw [if_pos ⟨bm, bc⟩, e]
  unfold bLiv
  rw [bm, Bool.true_and]
  exact if_cg ⟨fun y => ⟨by have := y.1; revert this; cases hs (S.1 8) (nI j) <;> simp, y.2⟩, fun y => ⟨by rw [y.1]; rfl, y.2⟩⟩
theorem gWalk_N {mo j : Nat} {S : xS} {c : Int32} (hm : MOK mo S) (hj : j < mo) : gWalk S (nI j) c = (S.1, S.2.1, S.2.2.1, S.2.2.2.1, S.2.2.2.2.1, upd S.2.2.2.2.2 j c) := by
  have := hm.2.1
  unfold gWalk
  rw [upB_N (by omega) (by decide)]
theorem WP.up {mo j d : Nat} {w : Nat → Int32} (h : WP w mo) (hd : d < 12) : WP (upd w j (nI d)) mo := by
  intro q hq
  unfold plN
  by_cases e : q = j
  · subst e; rw [upd_s, nI_clamp (by omega)]; exact ⟨rfl, hd⟩
  · rw [upd_n e]; exact h q hq
theorem vWalk_N {mo j d : Nat} {se : Nat → Int32} {S : xS} {X : Int32} (hB : GB mo se S) (hj : j < mo) (hd : d < 12) (hX : X = vOn (upd S.2.2.2.2.2 j (nI d)) (nI 1 <<< (nI d &&& 31)) mo) :
    vWalk mo S (nI j) (nI d) = (X &&& ((nI 1 <<< (nI j &&& 31)) ^^^ (-1))) &&& (S.1 8 ^^^ (-1)) := by
  have hm4 := hB.1.2.1
  unfold vWalk
  rw [upB_N (by omega) (by decide), hX]
  refine hs_ext fun k hk => ?_
  rw [hs_and hk, hs_and hk, hs_and hk, hs_and hk, hs_not hk, hs_not hk, hs_liv hB.1.1 hm4 hk, hs_vOn mo hm4 k hk]
  cases decide (k < mo) <;> cases hs (nI 1 <<< (nI d &&& 31)) (upd S.2.2.2.2.2 j (nI d) k) <;> cases hs (S.1 8) (nI k) <;> cases hs (nI 1 <<< (nI j &&& 31)) (nI k) <;> rfl
set_option maxHeartbeats 4000000 in
set_option maxRecDepth 100000 in
theorem K_walk {m mo E : Nat} {S : xS} (hX : XM G T R m) (hmo : I m 5 = nI mo) (hB : GB mo (I (m + 2)) S) (hV : GV mo E S) (hho : I m 4 = S.1 5) (hPg : PR mo S (I (m + 3))) (h0 : I m 0 = nI 0) {na : Nat} (hna : I m 16 = nI na) (hn14 : na ≤ 14) {v c : Int32} : xCon G Y_X3_walk [.ref m, .int v, .int c] T R L I ((T, fun o2 R2 L2 I2 => ∃ r, o2 = some (.int r) ∧ (R2 = R ∧ L2 = L ∧ ((eWalk S v c = 0 ∧ r = vWalk mo S v c ∧ ∃ Q, I2 = va_up (nt m na I) (m + 3) Q ∧ PR mo (gWalk S v c) Q) ∨ (¬ eWalk S v c = 0 ∧ r = eWalk S v c ∧ I2 = I))))) := by
  obtain ⟨m0, rt, st, rs, ss, rp, sp, rrp, srp, rrs, srs, rb, sb, rk, sk, ri, si, rc, sc, rv, sv, rr, sr⟩ := id hX
  have hm4 := hB.1.2.1
  refine xCon.mk (xl := [some (.ref m), some (.int v), some (.int c)]) (by decide +kernel) (xle_r _) rfl (Nat.le_of_ble_eq_true rfl) rfl ?_
  refine xV_aload_n e_X3_walk_0 rfl ?_
  refine xV_iconst (v := (nI 0)) e_X3_walk_1 (by decide) ?_
  refine xV_putI e_X3_walk_2 p_X3_48 (by assumption) ?_
  rw [xst_own h0]
  refine xV_aload_n e_X3_walk_5 rfl ?_
  refine xV_iload_n e_X3_walk_6 rfl ?_
  refine xV_cV1i e_X3_walk_7 c_X3_124 (by assumption) (C_X3_noMonk hX hmo hB hV hho) (Nat.le_of_ble_eq_true rfl) ⟨(Nat.le_of_ble_eq_true rfl), (Nat.le_of_ble_eq_true rfl)⟩ (xle_r _) (xle_r _) ?_
  refine xV_if_neB e_X3_walk_10 (fun h10 => ?_) (fun h10 => ?_)
  · refine xV_iconst (v := (-1)) e_X3_walk_20 (by decide) ?_
    exact xV_ireturn e_X3_walk_21 rfl rfl ⟨_, rfl, rfl, rfl, Or.inr ⟨by rw [eWalk_u (Or.inl (by simpa using h10))]; decide, (eWalk_u (Or.inl (by simpa using h10))).symm, rfl⟩⟩
  · refine xV_iload_n e_X3_walk_13 rfl ?_
    refine xV_cS1i e_X3_walk_14 c_X3_114 (C_X3_noCell) (Nat.le_of_ble_eq_true rfl) ⟨(Nat.le_of_ble_eq_true rfl), (Nat.le_of_ble_eq_true rfl)⟩ (xle_r _) (xle_r _) ?_
    refine xV_if_eqB e_X3_walk_17 (fun h17 => ?_) (fun h17 => ?_)
    · have hbm : bMonk S.1 v = true := by simpa using h10
      obtain ⟨ev, hj⟩ := bLiv_N hB.1.1 (by omega) hbm
      obtain ⟨j, ej⟩ : ∃ j, v.toNatClampNeg = j := ⟨_, rfl⟩
      rw [ej] at ev hj
      subst ev
      obtain ⟨d, hd, rfl⟩ := bC_j (show bCell c = true by simpa using h17)
      have ew := eWalk_j hB hj hd
      refine xV_aload_n e_X3_walk_22 rfl ?_
      refine xV_getR e_X3_walk_23 f_X3_20 (by assumption) (by assumption) ?_
      refine xV_bipush (v := (nI 53)) e_X3_walk_26 (by decide) ?_
      refine xV_ialdN e_X3_walk_28 (by exact xRow.of (by assumption)) (by omega) (by omega) ?_
      refine xV_iload_n e_X3_walk_29 rfl ?_
      refine xV_cS2i e_X3_walk_30 c_X3_70 (C_X3_hasH) (Nat.le_of_ble_eq_true rfl) ⟨(Nat.le_of_ble_eq_true rfl), (Nat.le_of_ble_eq_true rfl)⟩ (xle_r _) (xle_r _) ?_
      refine xV_if_neB e_X3_walk_33 (fun h33 => ?_) (fun h33 => ?_)
      · refine xV_bipush (v := (-3)) e_X3_walk_52 (by decide) ?_
        exact xV_ireturn e_X3_walk_54 rfl rfl ⟨_, rfl, rfl, rfl, Or.inr ⟨by rw [(ew.trans (if_neg (fun y => bl_f y.1 (by rw [← hPg.2.2.2.2.2.2.1]; exact h33))))]; decide, (ew.trans (if_neg (fun y => bl_f y.1 (by rw [← hPg.2.2.2.2.2.2.1]; exact h33)))).symm, rfl⟩⟩
      · refine xV_aload_n e_X3_walk_36 rfl ?_
        refine xV_getR e_X3_walk_37 f_X3_20 (by assumption) (by assumption) ?_
        refine xV_bipush (v := (nI 49)) e_X3_walk_40 (by decide) ?_
        refine xV_iload_n e_X3_walk_42 rfl ?_
        refine xV_iaddN e_X3_walk_43 ?_
        refine xV_ialdN e_X3_walk_44 (by exact xRow.of (by assumption)) (by omega) (by omega) ?_
        refine xV_iload_n e_X3_walk_45 rfl ?_
        refine xV_cS2i e_X3_walk_46 c_X3_121 (C_X3_areNext) (Nat.le_of_ble_eq_true rfl) ⟨(Nat.le_of_ble_eq_true rfl), (Nat.le_of_ble_eq_true rfl)⟩ (xle_r _) (xle_r _) ?_
        refine xV_if_neB e_X3_walk_49 (fun h49 => ?_) (fun h49 => ?_)
        · refine xV_aload_n e_X3_walk_55 rfl ?_
          refine xV_cV0v e_X3_walk_56 c_X3_142 (by assumption) (C_X3_note hX hna hn14) (Nat.le_of_ble_eq_true rfl) ⟨(Nat.le_of_ble_eq_true rfl), (Nat.le_of_ble_eq_true rfl)⟩ (xle_r _) (xle_r _) ?_
          refine xV_aload_n e_X3_walk_59 rfl ?_
          refine xV_getR e_X3_walk_60 f_X3_20 (by assumption) (by assumption) ?_
          refine xV_bipush (v := (nI 49)) e_X3_walk_63 (by decide) ?_
          refine xV_iload_n e_X3_walk_65 rfl ?_
          refine xV_iaddN e_X3_walk_66 ?_
          refine xV_iload_n e_X3_walk_67 rfl ?_
          refine xV_iastN e_X3_walk_68 (by assumption) (by omega) (by omega) ?_
          have e3 : nt m na I (m + 3) = I (m + 3) := nt_o (by omega) (by omega)
          have g1 := gWalk_N (c := nI d) hB.1 hj
          have hQ := PR.upw5 (v := nI d) hm4 hj hPg
          rw [show xst (nt m na I) (m + 3) (49 + j) (nI d) = (va_up (nt m na I) (m + 3) (upd (I (m + 3)) (49 + j) (nI d))) from by unfold xst; rw [e3]]
          have hm5 : (va_up (nt m na I) (m + 3) (upd (I (m + 3)) (49 + j) (nI d))) m 5 = nI mo := by rw [va_up_n (by omega), nt_f (by omega)]; exact hmo
          refine xV_aload_n e_X3_walk_69 rfl ?_
          refine xV_iload_n e_X3_walk_70 rfl ?_
          refine xV_cV1i e_X3_walk_71 c_X3_118 (by assumption) (C_X3_thereOf hX hm5 hm4) (Nat.le_of_ble_eq_true rfl) ⟨(Nat.le_of_ble_eq_true rfl), (Nat.le_of_ble_eq_true rfl)⟩ (xle_r _) (xle_r _) ?_
          rw [va_up_s]
          have hx := pOn_eq (mo := mo) (S := (S.1, S.2.1, S.2.2.1, S.2.2.2.1, S.2.2.2.2.1, upd S.2.2.2.2.2 j (nI d))) (P := upd (I (m + 3)) (49 + j) (nI d)) ⟨hB.1.1, hm4, WP.up hB.1.2.2 hd⟩ hQ.2.2.2.2.1 hd
          refine xV_iconst (v := (nI 1)) e_X3_walk_74 (by decide) ?_
          refine xV_iload_n e_X3_walk_75 rfl ?_
          refine xV_ishl e_X3_walk_76 ?_
          refine xV_iconst (v := (-1)) e_X3_walk_77 (by decide) ?_
          refine xV_ixor e_X3_walk_78 ?_
          refine xV_iand e_X3_walk_79 ?_
          refine xV_aload_n e_X3_walk_80 rfl ?_
          refine xV_getR e_X3_walk_81 f_X3_20 (by assumption) (by assumption) ?_
          refine xV_bipush (v := (nI 53)) e_X3_walk_84 (by decide) ?_
          refine xV_ialdN e_X3_walk_86 (by exact xRow.of (by assumption)) (by omega) (by omega) ?_
          rw [va_up_s, show upd (I (m + 3)) (49 + j) (nI d) 53 = S.1 8 from hQ.2.2.2.2.2.2.1]
          refine xV_iconst (v := (-1)) e_X3_walk_87 (by decide) ?_
          refine xV_ixor e_X3_walk_88 ?_
          refine xV_iand e_X3_walk_89 ?_
          exact xV_ireturn e_X3_walk_90 rfl rfl ⟨_, rfl, rfl, rfl, Or.inl ⟨ew.trans (if_pos ⟨by rw [← hPg.2.2.2.2.2.2.1]; exact h33, by rw [← hPg.2.2.2.2.1 j hj]; exact h49⟩), (vWalk_N hB hj hd hx).symm, _, rfl, by rw [g1]; exact hQ⟩⟩
        · refine xV_bipush (v := (-3)) e_X3_walk_52 (by decide) ?_
          exact xV_ireturn e_X3_walk_54 rfl rfl ⟨_, rfl, rfl, rfl, Or.inr ⟨by rw [(ew.trans (if_neg (fun y => bl_t y.2 (by rw [← hPg.2.2.2.2.1 j hj]; exact h49))))]; decide, (ew.trans (if_neg (fun y => bl_t y.2 (by rw [← hPg.2.2.2.2.1 j hj]; exact h49)))).symm, rfl⟩⟩
    · refine xV_iconst (v := (-1)) e_X3_walk_20 (by decide) ?_
      exact xV_ireturn e_X3_walk_21 rfl rfl ⟨_, rfl, rfl, rfl, Or.inr ⟨by rw [eWalk_u (Or.inr (by simpa using h17))]; decide, (eWalk_u (Or.inr (by simpa using h17))).symm, rfl⟩⟩
set_option maxHeartbeats 4000000 in
set_option maxRecDepth 100000 in
theorem P_X3_undo_27 {m na : Nat} (hX : XM G T R m) (hna : I m 16 = nI na) (hn14 : na < 14) {P : Nat → Int32} : ∀ k, k ≤ 58 → xV G Y_X3_undo T (xD (some (.int (nI na))) T R L (va_up I (m + 3) (cpB (fun k => I (m + 6) (58 * na + k)) P 58))) 27 [some (.ref m), some (.int (nI k))] [] T R L (va_up I (m + 3) (cpB (fun k => I (m + 6) (58 * na + k)) P k)) := by
  obtain ⟨m0, rt, st, rs, ss, rp, sp, rrp, srp, rrs, srs, rb, sb, rk, sk, ri, si, rc, sc, rv, sv, rr, sr⟩ := id hX
  refine xloop 58 (fun k hk0 ih => ?_)
  refine xV_iload_n e_X3_undo_27 rfl ?_
  refine xV_bipush (v := (nI 58)) e_X3_undo_28 (by decide) ?_
  refine xV_icmp_geN e_X3_undo_30 (by omega) (by omega) (fun h30 => ?_) (fun h30 => ?_)
  · obtain rfl : k = 58 := by omega
    refine xV_aload_n e_X3_undo_59 rfl ?_
    refine xV_getO e_X3_undo_60 f_X3_108 m0 (by omega) ?_
    rw [hna]
    exact xV_ireturn e_X3_undo_63 rfl rfl ⟨rfl, rfl, rfl, rfl⟩
  · refine xV_aload_n e_X3_undo_33 rfl ?_
    refine xV_getR e_X3_undo_34 f_X3_20 (by assumption) (by assumption) ?_
    refine xV_iload_n e_X3_undo_37 rfl ?_
    refine xV_aload_n e_X3_undo_38 rfl ?_
    refine xV_getR e_X3_undo_39 f_X3_29 (by assumption) (by assumption) ?_
    refine xV_bipush (v := (nI 58)) e_X3_undo_42 (by decide) ?_
    refine xV_aload_n e_X3_undo_44 rfl ?_
    refine xV_getO e_X3_undo_45 f_X3_108 m0 (by omega) ?_
    rw [hna]
    refine xV_imulN e_X3_undo_48 ?_
    refine xV_iload_n e_X3_undo_49 rfl ?_
    refine xV_iaddN e_X3_undo_50 ?_
    refine xV_ialdN e_X3_undo_51 (by first | exact xRow.vp (by assumption) | exact xRow.vo (by omega) (by assumption)) (by omega) (by omega) ?_
    refine xV_iastP e_X3_undo_52 (by assumption) (by omega) (by omega) ?_
    refine xV_iincN e_X3_undo_53 rfl rfl ?_
    refine xV_goto e_X3_undo_56 ?_
    rw [cpB_s (Q := fun k => I (m + 6) (58 * na + k))]
    exact ih (by omega)
set_option maxHeartbeats 4000000 in
set_option maxRecDepth 100000 in
theorem K_undoOk {m : Nat} (hX : XM G T R m) (h0 : I m 0 = nI 0) {na : Nat} (hna : I m 16 = nI na) (h1 : 1 ≤ na) (hn14 : na ≤ 14) : xCon G Y_X3_undo [.ref m] T R L I (xD (some (.int (nI (na - 1)))) T R L (va_up (xst I m 16 (nI (na - 1))) (m + 3) (cpB (fun k => I (m + 6) (58 * (na - 1) + k)) (I (m + 3)) 58))) := by
  obtain ⟨m0, rt, st, rs, ss, rp, sp, rrp, srp, rrs, srs, rb, sb, rk, sk, ri, si, rc, sc, rv, sv, rr, sr⟩ := id hX
  refine xCon.mk (xl := [some (.ref m), none]) (by decide +kernel) (xle_r _) rfl (Nat.le_of_ble_eq_true rfl) rfl ?_
  refine xV_aload_n e_X3_undo_0 rfl ?_
  refine xV_iconst (v := (nI 0)) e_X3_undo_1 (by decide) ?_
  refine xV_putI e_X3_undo_2 p_X3_48 (by assumption) ?_
  rw [xst_own h0]
  refine xV_aload_n e_X3_undo_5 rfl ?_
  refine xV_getI e_X3_undo_6 f_X3_108 m0 ?_
  refine xV_if_ne e_X3_undo_9 (fun h9 => ?_) (fun h9 => ?_)
  · refine xV_aload_n e_X3_undo_15 rfl ?_
    refine xV_dup e_X3_undo_16 rfl ?_
    refine xV_getI e_X3_undo_17 f_X3_108 m0 ?_
    rw [hna]
    refine xV_iconst (v := (nI 1)) e_X3_undo_20 (by decide) ?_
    refine xV_isub e_X3_undo_21 ?_
    rw [pk_sub h1]
    refine xV_putI e_X3_undo_22 p_X3_108 (by assumption) ?_
    refine xV_iconst (v := (nI 0)) e_X3_undo_25 (by decide) ?_
    refine xV_istore_n e_X3_undo_26 (Nat.le_of_ble_eq_true rfl) rfl ?_
    have q := P_X3_undo_27 (L := L) (I := xst I m 16 (nI (na - 1))) (na := na - 1) (P := I (m + 3)) hX (by rw [xst_s, upd_s]) (by omega) 0 (Nat.zero_le _)
    rw [cpB_0, xst_o (by omega), show va_up (xst I m 16 (nI (na - 1))) (m + 3) (I (m + 3)) = xst I m 16 (nI (na - 1)) from va_own (xst_o (by omega))] at q
    exact q
  · exact absurd (hna.symm.trans h9) (nI_ne0 (by omega) (by omega))
set_option maxHeartbeats 4000000 in
set_option maxRecDepth 100000 in
theorem K_undoBad {m : Nat} (hX : XM G T R m) (h0 : I m 0 = nI 0) (hna : I m 16 = nI 0) : xCon G Y_X3_undo [.ref m] T R L I (xD (some (.int (-3))) T R L I) := by
  obtain ⟨m0, rt, st, rs, ss, rp, sp, rrp, srp, rrs, srs, rb, sb, rk, sk, ri, si, rc, sc, rv, sv, rr, sr⟩ := id hX
  refine xCon.mk (xl := [some (.ref m), none]) (by decide +kernel) (xle_r _) rfl (Nat.le_of_ble_eq_true rfl) rfl ?_
  refine xV_aload_n e_X3_undo_0 rfl ?_
  refine xV_iconst (v := (nI 0)) e_X3_undo_1 (by decide) ?_
  refine xV_putI e_X3_undo_2 p_X3_48 (by assumption) ?_
  rw [xst_own h0]
  refine xV_aload_n e_X3_undo_5 rfl ?_
  refine xV_getI e_X3_undo_6 f_X3_108 m0 ?_
  refine xV_if_ne e_X3_undo_9 (fun h9 => ?_) (fun h9 => ?_)
  · exact absurd (hna.trans nI_0) h9
  · refine xV_bipush (v := (-3)) e_X3_undo_12 (by decide) ?_
    exact xV_ireturn e_X3_undo_14 rfl rfl ⟨rfl, rfl, rfl, rfl⟩
set_option maxHeartbeats 4000000 in
set_option maxRecDepth 100000 in
theorem P_X3_keep_26 {m s : Nat} (hX : XM G T R m) (hs2 : s < 2) {B : Nat → Int32} : ∀ k, k ≤ 58 → xV G Y_X3_keep T (xD (some (.int (I (m + 3) 55))) T R L (va_up I (m + 7) (cpA B (58 * s) (I (m + 3)) 58))) 26 [some (.ref m), some (.int (nI s)), some (.int (nI k))] [] T R L (va_up I (m + 7) (cpA B (58 * s) (I (m + 3)) k)) := by
  obtain ⟨m0, rt, st, rs, ss, rp, sp, rrp, srp, rrs, srs, rb, sb, rk, sk, ri, si, rc, sc, rv, sv, rr, sr⟩ := id hX
  refine xloop 58 (fun k hk0 ih => ?_)
  refine xV_iload_n e_X3_keep_26 rfl ?_
  refine xV_bipush (v := (nI 58)) e_X3_keep_27 (by decide) ?_
  refine xV_icmp_geN e_X3_keep_29 (by omega) (by omega) (fun h29 => ?_) (fun h29 => ?_)
  · obtain rfl : k = 58 := by omega
    refine xV_aload_n e_X3_keep_55 rfl ?_
    refine xV_getR e_X3_keep_56 f_X3_20 (by assumption) (by assumption) ?_
    refine xV_bipush (v := (nI 55)) e_X3_keep_59 (by decide) ?_
    refine xV_ialdN e_X3_keep_61 (by first | exact xRow.vp (by assumption) | exact xRow.vo (by omega) (by assumption)) (by omega) (by omega) ?_
    exact xV_ireturn e_X3_keep_62 rfl rfl ⟨rfl, rfl, rfl, rfl⟩
  · refine xV_aload_n e_X3_keep_32 rfl ?_
    refine xV_getR e_X3_keep_33 f_X3_32 (by assumption) (by assumption) ?_
    refine xV_bipush (v := (nI 58)) e_X3_keep_36 (by decide) ?_
    refine xV_iload_n e_X3_keep_38 rfl ?_
    refine xV_imulN e_X3_keep_39 ?_
    refine xV_iload_n e_X3_keep_40 rfl ?_
    refine xV_iaddN e_X3_keep_41 ?_
    refine xV_aload_n e_X3_keep_42 rfl ?_
    refine xV_getR e_X3_keep_43 f_X3_20 (by assumption) (by assumption) ?_
    refine xV_iload_n e_X3_keep_46 rfl ?_
    refine xV_ialdN e_X3_keep_47 (by first | exact xRow.vp (by assumption) | exact xRow.vo (by omega) (by assumption)) (by omega) (by omega) ?_
    refine xV_iastP e_X3_keep_48 (by assumption) (by omega) (by omega) ?_
    refine xV_iincN e_X3_keep_49 rfl rfl ?_
    refine xV_goto e_X3_keep_52 ?_
    rw [cpA_s]
    exact ih (by omega)
theorem uS_y {s : Nat} (h : s < 2) : (decide (nI 0 ≤ nI s) && decide (nI s ≤ nI 1)) = true := by rw [decide_eq_true (nI_le (Nat.zero_le _) (by omega)), decide_eq_true (nI_le (show s ≤ 1 by omega) (by decide))]; rfl
theorem uS_n {s : Int32} (h : s < 0 ∨ ¬ s < nI 2) : (decide (nI 0 ≤ s) && decide (s ≤ nI 1)) = false := by
  cases z : (decide (nI 0 ≤ s) && decide (s ≤ nI 1))
  · rfl
  · obtain ⟨j, j1, j2, rfl⟩ := bL_j (by decide) (by decide) z
    rcases h with h | h
    · exact absurd h (nI_pos (by omega))
    · exact absurd (nI_lt (by omega) (by decide)) h
set_option maxHeartbeats 4000000 in
set_option maxRecDepth 100000 in
theorem K_keepOk {m : Nat} (hX : XM G T R m) (h0 : I m 0 = nI 0) {s : Nat} (hs2 : s < 2) : xCon G Y_X3_keep [.ref m, .int (nI s)] T R L I (xD (some (.int (I (m + 3) 55))) T R L (va_up (xst I (m + 8) s (nI 1)) (m + 7) (cpA (I (m + 7)) (58 * s) (I (m + 3)) 58))) := by
  obtain ⟨m0, rt, st, rs, ss, rp, sp, rrp, srp, rrs, srs, rb, sb, rk, sk, ri, si, rc, sc, rv, sv, rr, sr⟩ := id hX
  refine xCon.mk (xl := [some (.ref m), some (.int (nI s)), none]) (by decide +kernel) (xle_r _) rfl (Nat.le_of_ble_eq_true rfl) rfl ?_
  refine xV_aload_n e_X3_keep_0 rfl ?_
  refine xV_iconst (v := (nI 0)) e_X3_keep_1 (by decide) ?_
  refine xV_putI e_X3_keep_2 p_X3_48 (by assumption) ?_
  rw [xst_own h0]
  refine xV_iload_n e_X3_keep_5 rfl ?_
  refine xV_i2l e_X3_keep_6 ?_
  refine xV_lconst (v := 0) e_X3_keep_7 (by decide) ?_
  refine xV_lconst (v := 1) e_X3_keep_8 (by decide) ?_
  refine xV_cS3i e_X3_keep_9 c_X3_54 (C_X3_in) (Nat.le_of_ble_eq_true rfl) ⟨(Nat.le_of_ble_eq_true rfl), (Nat.le_of_ble_eq_true rfl)⟩ (xle_r _) (xle_r _) ?_
  rw [bL_N (a := 0) (b := 1) (by decide) (by decide)]
  refine xV_if_neB e_X3_keep_12 (fun h12 => ?_) (fun h12 => ?_)
  · refine xV_aload_n e_X3_keep_17 rfl ?_
    refine xV_getR e_X3_keep_18 f_X3_35 (by assumption) (by assumption) ?_
    refine xV_iload_n e_X3_keep_21 rfl ?_
    refine xV_iconst (v := (nI 1)) e_X3_keep_22 (by decide) ?_
    refine xV_bastN e_X3_keep_23 (by assumption) hs2 (by omega) rfl ?_
    refine xV_iconst (v := (nI 0)) e_X3_keep_24 (by decide) ?_
    refine xV_istore_n e_X3_keep_25 (Nat.le_of_ble_eq_true rfl) rfl ?_
    have q := P_X3_keep_26 (L := L) (I := xst I (m + 8) s (nI 1)) (B := I (m + 7)) hX hs2 0 (Nat.zero_le _)
    rw [cpA_0, xst_o (by omega), show va_up (xst I (m + 8) s (nI 1)) (m + 7) (I (m + 7)) = xst I (m + 8) s (nI 1) from va_own (xst_o (by omega))] at q
    exact q
  · exact absurd (uS_y hs2) (bl_f h12)
set_option maxHeartbeats 4000000 in
set_option maxRecDepth 100000 in
theorem K_keepBad {m : Nat} (hX : XM G T R m) (h0 : I m 0 = nI 0) {s : Int32} (hb : s < 0 ∨ ¬ s < nI 2) : xCon G Y_X3_keep [.ref m, .int s] T R L I (xD (some (.int (-1))) T R L I) := by
  obtain ⟨m0, rt, st, rs, ss, rp, sp, rrp, srp, rrs, srs, rb, sb, rk, sk, ri, si, rc, sc, rv, sv, rr, sr⟩ := id hX
  refine xCon.mk (xl := [some (.ref m), some (.int s), none]) (by decide +kernel) (xle_r _) rfl (Nat.le_of_ble_eq_true rfl) rfl ?_
  refine xV_aload_n e_X3_keep_0 rfl ?_
  refine xV_iconst (v := (nI 0)) e_X3_keep_1 (by decide) ?_
  refine xV_putI e_X3_keep_2 p_X3_48 (by assumption) ?_
  rw [xst_own h0]
  refine xV_iload_n e_X3_keep_5 rfl ?_
  refine xV_i2l e_X3_keep_6 ?_
  refine xV_lconst (v := 0) e_X3_keep_7 (by decide) ?_
  refine xV_lconst (v := 1) e_X3_keep_8 (by decide) ?_
  refine xV_cS3i e_X3_keep_9 c_X3_54 (C_X3_in) (Nat.le_of_ble_eq_true rfl) ⟨(Nat.le_of_ble_eq_true rfl), (Nat.le_of_ble_eq_true rfl)⟩ (xle_r _) (xle_r _) ?_
  rw [bL_N (a := 0) (b := 1) (by decide) (by decide)]
  refine xV_if_neB e_X3_keep_12 (fun h12 => ?_) (fun h12 => ?_)
  · exact absurd h12 (bl_f (uS_n hb))
  · refine xV_iconst (v := (-1)) e_X3_keep_15 (by decide) ?_
    exact xV_ireturn e_X3_keep_16 rfl rfl ⟨rfl, rfl, rfl, rfl⟩
set_option maxHeartbeats 4000000 in
set_option maxRecDepth 100000 in
theorem P_X3_again_31 {m s : Nat} (hX : XM G T R m) (hs2 : s < 2) {P : Nat → Int32} : ∀ k, k ≤ 58 → xV G Y_X3_again T (xD (some (.int (I (m + 7) (58 * s + 55)))) T R L (va_up (xst I m 16 (nI 0)) (m + 3) (cpB (fun k => I (m + 7) (58 * s + k)) P 58))) 31 [some (.ref m), some (.int (nI s)), some (.int (nI k))] [] T R L (va_up I (m + 3) (cpB (fun k => I (m + 7) (58 * s + k)) P k)) := by
  obtain ⟨m0, rt, st, rs, ss, rp, sp, rrp, srp, rrs, srs, rb, sb, rk, sk, ri, si, rc, sc, rv, sv, rr, sr⟩ := id hX
  refine xloop 58 (fun k hk0 ih => ?_)
  refine xV_iload_n e_X3_again_31 rfl ?_
  refine xV_bipush (v := (nI 58)) e_X3_again_32 (by decide) ?_
  refine xV_icmp_geN e_X3_again_34 (by omega) (by omega) (fun h34 => ?_) (fun h34 => ?_)
  · obtain rfl : k = 58 := by omega
    refine xV_aload_n e_X3_again_60 rfl ?_
    refine xV_iconst (v := (nI 0)) e_X3_again_61 (by decide) ?_
    refine xV_putI e_X3_again_62 p_X3_108 (by assumption) ?_
    rw [xst_va (by omega)]
    refine xV_aload_n e_X3_again_65 rfl ?_
    refine xV_getR e_X3_again_66 f_X3_20 (by assumption) (by assumption) ?_
    refine xV_bipush (v := (nI 55)) e_X3_again_69 (by decide) ?_
    refine xV_ialdN e_X3_again_71 (by first | exact xRow.vp (by assumption) | exact xRow.vo (by omega) (by assumption)) (by omega) (by omega) ?_
    rw [show cpB (fun k => I (m + 7) (58 * s + k)) P 58 55 = I (m + 7) (58 * s + 55) from if_pos (by decide)]
    exact xV_ireturn e_X3_again_72 rfl rfl ⟨rfl, rfl, rfl, rfl⟩
  · refine xV_aload_n e_X3_again_37 rfl ?_
    refine xV_getR e_X3_again_38 f_X3_20 (by assumption) (by assumption) ?_
    refine xV_iload_n e_X3_again_41 rfl ?_
    refine xV_aload_n e_X3_again_42 rfl ?_
    refine xV_getR e_X3_again_43 f_X3_32 (by assumption) (by assumption) ?_
    refine xV_bipush (v := (nI 58)) e_X3_again_46 (by decide) ?_
    refine xV_iload_n e_X3_again_48 rfl ?_
    refine xV_imulN e_X3_again_49 ?_
    refine xV_iload_n e_X3_again_50 rfl ?_
    refine xV_iaddN e_X3_again_51 ?_
    refine xV_ialdN e_X3_again_52 (by first | exact xRow.vp (by assumption) | exact xRow.vo (by omega) (by assumption)) (by omega) (by omega) ?_
    refine xV_iastP e_X3_again_53 (by assumption) (by omega) (by omega) ?_
    refine xV_iincN e_X3_again_54 rfl rfl ?_
    refine xV_goto e_X3_again_57 ?_
    rw [cpB_s (Q := fun k => I (m + 7) (58 * s + k))]
    exact ih (by omega)
set_option maxHeartbeats 4000000 in
set_option maxRecDepth 100000 in
theorem K_againOk {m : Nat} (hX : XM G T R m) (h0 : I m 0 = nI 0) {s : Nat} (hs2 : s < 2) (hkp : I (m + 8) s = xb true) : xCon G Y_X3_again [.ref m, .int (nI s)] T R L I (xD (some (.int (I (m + 7) (58 * s + 55)))) T R L (va_up (xst I m 16 (nI 0)) (m + 3) (cpB (fun k => I (m + 7) (58 * s + k)) (I (m + 3)) 58))) := by
  obtain ⟨m0, rt, st, rs, ss, rp, sp, rrp, srp, rrs, srs, rb, sb, rk, sk, ri, si, rc, sc, rv, sv, rr, sr⟩ := id hX
  refine xCon.mk (xl := [some (.ref m), some (.int (nI s)), none]) (by decide +kernel) (xle_r _) rfl (Nat.le_of_ble_eq_true rfl) rfl ?_
  refine xV_aload_n e_X3_again_0 rfl ?_
  refine xV_iconst (v := (nI 0)) e_X3_again_1 (by decide) ?_
  refine xV_putI e_X3_again_2 p_X3_48 (by assumption) ?_
  rw [xst_own h0]
  refine xV_iload_n e_X3_again_5 rfl ?_
  refine xV_i2l e_X3_again_6 ?_
  refine xV_lconst (v := 0) e_X3_again_7 (by decide) ?_
  refine xV_lconst (v := 1) e_X3_again_8 (by decide) ?_
  refine xV_cS3i e_X3_again_9 c_X3_54 (C_X3_in) (Nat.le_of_ble_eq_true rfl) ⟨(Nat.le_of_ble_eq_true rfl), (Nat.le_of_ble_eq_true rfl)⟩ (xle_r _) (xle_r _) ?_
  rw [bL_N (a := 0) (b := 1) (by decide) (by decide)]
  refine xV_if_neB e_X3_again_12 (fun h12 => ?_) (fun h12 => ?_)
  · refine xV_aload_n e_X3_again_17 rfl ?_
    refine xV_getR e_X3_again_18 f_X3_35 (by assumption) (by assumption) ?_
    refine xV_iload_n e_X3_again_21 rfl ?_
    refine xV_baldN e_X3_again_22 (by assumption) hs2 (by omega) ?_
    rw [hkp]
    refine xV_if_neB e_X3_again_23 (fun h23 => ?_) (fun h23 => ?_)
    · refine xV_iconst (v := (nI 0)) e_X3_again_29 (by decide) ?_
      refine xV_istore_n e_X3_again_30 (Nat.le_of_ble_eq_true rfl) rfl ?_
      have q := P_X3_again_31 (L := L) (I := I) (P := I (m + 3)) hX hs2 0 (Nat.zero_le _)
      rw [cpB_0, va_up_own] at q
      exact q
    · exact absurd h23 (by decide)
  · exact absurd (uS_y hs2) (bl_f h12)
set_option maxHeartbeats 4000000 in
set_option maxRecDepth 100000 in
theorem K_againLate {m : Nat} (hX : XM G T R m) (h0 : I m 0 = nI 0) {s : Nat} (hs2 : s < 2) (hkp : I (m + 8) s = xb false) : xCon G Y_X3_again [.ref m, .int (nI s)] T R L I (xD (some (.int (-3))) T R L I) := by
  obtain ⟨m0, rt, st, rs, ss, rp, sp, rrp, srp, rrs, srs, rb, sb, rk, sk, ri, si, rc, sc, rv, sv, rr, sr⟩ := id hX
  refine xCon.mk (xl := [some (.ref m), some (.int (nI s)), none]) (by decide +kernel) (xle_r _) rfl (Nat.le_of_ble_eq_true rfl) rfl ?_
  refine xV_aload_n e_X3_again_0 rfl ?_
  refine xV_iconst (v := (nI 0)) e_X3_again_1 (by decide) ?_
  refine xV_putI e_X3_again_2 p_X3_48 (by assumption) ?_
  rw [xst_own h0]
  refine xV_iload_n e_X3_again_5 rfl ?_
  refine xV_i2l e_X3_again_6 ?_
  refine xV_lconst (v := 0) e_X3_again_7 (by decide) ?_
  refine xV_lconst (v := 1) e_X3_again_8 (by decide) ?_
  refine xV_cS3i e_X3_again_9 c_X3_54 (C_X3_in) (Nat.le_of_ble_eq_true rfl) ⟨(Nat.le_of_ble_eq_true rfl), (Nat.le_of_ble_eq_true rfl)⟩ (xle_r _) (xle_r _) ?_
  rw [bL_N (a := 0) (b := 1) (by decide) (by decide)]
  refine xV_if_neB e_X3_again_12 (fun h12 => ?_) (fun h12 => ?_)
  · refine xV_aload_n e_X3_again_17 rfl ?_
    refine xV_getR e_X3_again_18 f_X3_35 (by assumption) (by assumption) ?_
    refine xV_iload_n e_X3_again_21 rfl ?_
    refine xV_baldN e_X3_again_22 (by assumption) hs2 (by omega) ?_
    rw [hkp]
    refine xV_if_neB e_X3_again_23 (fun h23 => ?_) (fun h23 => ?_)
    · exact absurd h23 (by decide)
    · refine xV_bipush (v := (-3)) e_X3_again_26 (by decide) ?_
      exact xV_ireturn e_X3_again_28 rfl rfl ⟨rfl, rfl, rfl, rfl⟩
  · exact absurd (uS_y hs2) (bl_f h12)
set_option maxHeartbeats 4000000 in
set_option maxRecDepth 100000 in
theorem K_againBad {m : Nat} (hX : XM G T R m) (h0 : I m 0 = nI 0) {s : Int32} (hb : s < 0 ∨ ¬ s < nI 2) : xCon G Y_X3_again [.ref m, .int s] T R L I (xD (some (.int (-1))) T R L I) := by
  obtain ⟨m0, rt, st, rs, ss, rp, sp, rrp, srp, rrs, srs, rb, sb, rk, sk, ri, si, rc, sc, rv, sv, rr, sr⟩ := id hX
  refine xCon.mk (xl := [some (.ref m), some (.int s), none]) (by decide +kernel) (xle_r _) rfl (Nat.le_of_ble_eq_true rfl) rfl ?_
  refine xV_aload_n e_X3_again_0 rfl ?_
  refine xV_iconst (v := (nI 0)) e_X3_again_1 (by decide) ?_
  refine xV_putI e_X3_again_2 p_X3_48 (by assumption) ?_
  rw [xst_own h0]
  refine xV_iload_n e_X3_again_5 rfl ?_
  refine xV_i2l e_X3_again_6 ?_
  refine xV_lconst (v := 0) e_X3_again_7 (by decide) ?_
  refine xV_lconst (v := 1) e_X3_again_8 (by decide) ?_
  refine xV_cS3i e_X3_again_9 c_X3_54 (C_X3_in) (Nat.le_of_ble_eq_true rfl) ⟨(Nat.le_of_ble_eq_true rfl), (Nat.le_of_ble_eq_true rfl)⟩ (xle_r _) (xle_r _) ?_
  rw [bL_N (a := 0) (b := 1) (by decide) (by decide)]
  refine xV_if_neB e_X3_again_12 (fun h12 => ?_) (fun h12 => ?_)
  · exact absurd h12 (bl_f (uS_n hb))
  · refine xV_iconst (v := (-1)) e_X3_again_15 (by decide) ?_
    exact xV_ireturn e_X3_again_16 rfl rfl ⟨rfl, rfl, rfl, rfl⟩
end XMM
