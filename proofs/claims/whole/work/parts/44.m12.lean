/-! THE MODEL: its simple methods -/
section XML
variable {G : xG} {T : xT} {R : xR} {L : xL} {I : xI}
theorem C_X3_noMonk {m mo E : Nat} {S : xS} (hX : XM G T R m) (hmo : I m 5 = nI mo) (hB : GB mo (I (m + 2)) S) (hV : GV mo E S) (hho : I m 4 = S.1 5) {v : Int32} : xCon G Y_X3_noMonk [.ref m, .int v] T R L I (xD (some (.int (xb (!bMonk S.1 v)))) T R L I) := by
  have q := C_X3_noMonkP (L := L) (P := I (m + 11)) (v := v) hX hmo hB hV hho
  rwa [va_up_own] at q
theorem C_X3_timesI {m mo E : Nat} {S : xS} (hX : XM G T R m) (hmo : I m 5 = nI mo) (hB : GB mo (I (m + 2)) S) (hV : GV mo E S) (hho : I m 4 = S.1 5) (hPg : PR mo S (I (m + 3))) {j : Nat} (hj : j < mo) (hl : hs (S.1 8) (nI j) = false) : xCon G Y_X3_timesOf [.ref m, .ref (m + 3), .int (nI j)] T R L I (xD (some (.int (vForce mo S.1 S.2.2.2.2.2 j))) T R L I) := by
  obtain ⟨m0, rt, st, rs, ss, rp, sp, rrp, srp, rrs, srs, rb, sb, rk, sk, ri, si, rc, sc, rv, sv, rr, sr⟩ := id hX
  have q := C_X3_timesOf (L := L) (I := I) (a := m + 3) (P := I (m + 3)) hX hmo hB.1.2.1 sp ⟨by omega, by omega⟩ hj
  rwa [va_up_own, pTm_force hB hPg hj hl] at q
set_option maxHeartbeats 4000000 in
set_option maxRecDepth 100000 in
theorem K_wipe {m : Nat} (hX : XM G T R m) (h0 : I m 0 = nI 0) : xCon G Y_X3_wipe [.ref m] T R L I (xD (some (.int (I m 2))) T R L (xst I m 2 (nI 0))) := by
  obtain ⟨m0, rt, st, rs, ss, rp, sp, rrp, srp, rrs, srs, rb, sb, rk, sk, ri, si, rc, sc, rv, sv, rr, sr⟩ := id hX
  refine xCon.mk (xl := [some (.ref m), none]) (by decide +kernel) (xle_r _) rfl (Nat.le_of_ble_eq_true rfl) rfl ?_
  refine xV_aload_n e_X3_wipe_0 rfl ?_
  refine xV_iconst (v := (nI 0)) e_X3_wipe_1 (by decide) ?_
  refine xV_putI e_X3_wipe_2 p_X3_48 (by assumption) ?_
  rw [xst_own h0]
  refine xV_aload_n e_X3_wipe_5 rfl ?_
  refine xV_getI e_X3_wipe_6 f_X3_62 m0 ?_
  refine xV_istore_n e_X3_wipe_9 (Nat.le_of_ble_eq_true rfl) rfl ?_
  refine xV_aload_n e_X3_wipe_10 rfl ?_
  refine xV_iconst (v := (nI 0)) e_X3_wipe_11 (by decide) ?_
  refine xV_putI e_X3_wipe_12 p_X3_62 (by assumption) ?_
  refine xV_iload_n e_X3_wipe_15 rfl ?_
  exact xV_ireturn e_X3_wipe_16 rfl rfl ⟨rfl, rfl, rfl, rfl⟩
set_option maxHeartbeats 4000000 in
set_option maxRecDepth 100000 in
theorem K_unsee {m : Nat} (hX : XM G T R m) (h0 : I m 0 = nI 0) : xCon G Y_X3_unsee [.ref m] T R L I (xD (some (.int (I m 19))) T R L (xst I m 19 (nI 0))) := by
  obtain ⟨m0, rt, st, rs, ss, rp, sp, rrp, srp, rrs, srs, rb, sb, rk, sk, ri, si, rc, sc, rv, sv, rr, sr⟩ := id hX
  refine xCon.mk (xl := [some (.ref m), none]) (by decide +kernel) (xle_r _) rfl (Nat.le_of_ble_eq_true rfl) rfl ?_
  refine xV_aload_n e_X3_unsee_0 rfl ?_
  refine xV_iconst (v := (nI 0)) e_X3_unsee_1 (by decide) ?_
  refine xV_putI e_X3_unsee_2 p_X3_48 (by assumption) ?_
  rw [xst_own h0]
  refine xV_aload_n e_X3_unsee_5 rfl ?_
  refine xV_getI e_X3_unsee_6 f_X3_111 m0 ?_
  refine xV_istore_n e_X3_unsee_9 (Nat.le_of_ble_eq_true rfl) rfl ?_
  refine xV_aload_n e_X3_unsee_10 rfl ?_
  refine xV_iconst (v := (nI 0)) e_X3_unsee_11 (by decide) ?_
  refine xV_putI e_X3_unsee_12 p_X3_111 (by assumption) ?_
  refine xV_iload_n e_X3_unsee_15 rfl ?_
  exact xV_ireturn e_X3_unsee_16 rfl rfl ⟨rfl, rfl, rfl, rfl⟩
set_option maxHeartbeats 4000000 in
set_option maxRecDepth 100000 in
theorem K_seed {m : Nat} (hX : XM G T R m) (h0 : I m 0 = nI 0) {v : Int64} : xCon G Y_X3_seed [.ref m, .long v] T R L I (xD (some (.long (L m 14))) T R (xsl L m 14 v) I) := by
  obtain ⟨m0, rt, st, rs, ss, rp, sp, rrp, srp, rrs, srs, rb, sb, rk, sk, ri, si, rc, sc, rv, sv, rr, sr⟩ := id hX
  refine xCon.mk (xl := [some (.ref m), some (.long v), none, none, none]) (by decide +kernel) (xle_r _) rfl (Nat.le_of_ble_eq_true rfl) rfl ?_
  refine xV_aload_n e_X3_seed_0 rfl ?_
  refine xV_iconst (v := (nI 0)) e_X3_seed_1 (by decide) ?_
  refine xV_putI e_X3_seed_2 p_X3_48 (by assumption) ?_
  rw [xst_own h0]
  refine xV_aload_n e_X3_seed_5 rfl ?_
  refine xV_getL e_X3_seed_6 f_X3_179 (by assumption) ?_
  refine xV_lstore_n e_X3_seed_9 (Nat.le_of_ble_eq_true rfl) rfl ?_
  refine xV_aload_n e_X3_seed_10 rfl ?_
  refine xV_lload_n e_X3_seed_11 rfl ?_
  refine xV_putL e_X3_seed_12 p_X3_179 (by assumption) ?_
  refine xV_lload_n e_X3_seed_15 rfl ?_
  exact xV_lreturn e_X3_seed_16 rfl rfl ⟨rfl, rfl, rfl, rfl⟩
theorem vSum_eq {w w2 : Nat → Int32} : ∀ n, (∀ k, k < n → w k = w2 k) → vSum w n = vSum w2 n := by
  intro n
  induction n with
  | zero => intro _; rfl
  | succ n ih => intro h; rw [vSum, vSum, ih (fun k hk => h k (by omega)), h n (by omega)]
set_option maxHeartbeats 4000000 in
set_option maxRecDepth 100000 in
theorem P_X3_about_9 {m mo E : Nat} {S : xS} (hX : XM G T R m) (hmo : I m 5 = nI mo) (hB : GB mo (I (m + 2)) S) (hV : GV mo E S) (hho : I m 4 = S.1 5) (hPg : PR mo S (I (m + 3))) {what : Int32} : ∀ k, k ≤ 12 → xV G Y_X3_about T (xD (some (.int (qAbout S (I m 16) (I m 19) (I m 2) what))) T R L I) 9 [some (.ref m), some (.int what), some (.int (vSum (I (m + 3)) k)), some (.int (nI k))] [] T R L I := by
  obtain ⟨m0, rt, st, rs, ss, rp, sp, rrp, srp, rrs, srs, rb, sb, rk, sk, ri, si, rc, sc, rv, sv, rr, sr⟩ := id hX
  have hm4 := hB.1.2.1
  refine xloop 12 (fun k hk0 ih => ?_)
  refine xV_iload_n e_X3_about_9 rfl ?_
  refine xV_bipush (v := (nI 12)) e_X3_about_10 (by decide) ?_
  refine xV_icmp_geN e_X3_about_12 (by omega) (by omega) (fun h12 => ?_) (fun h12 => ?_)
  · obtain rfl : k = 12 := by omega
    refine xV_iload_n e_X3_about_30 rfl ?_
    by_cases s31_0 : what = nI 0
    · refine xV_tswIn (off := 53) (tgt := 84) e_X3_about_31 (by rw [s31_0]; decide) (by rw [s31_0]; decide) (by rw [s31_0]; rfl) (by decide) ?_
      refine xV_aload_n e_X3_about_84 rfl ?_
      refine xV_getI e_X3_about_85 f_X3_13 m0 ?_
      exact xV_ireturn e_X3_about_88 rfl rfl (by rw [qAbout, if_pos s31_0, hho]; exact ⟨rfl, rfl, rfl, rfl⟩)
    by_cases s31_1 : what = nI 1
    · refine xV_tswIn (off := 58) (tgt := 89) e_X3_about_31 (by rw [s31_1]; decide) (by rw [s31_1]; decide) (by rw [s31_1]; rfl) (by decide) ?_
      refine xV_aload_n e_X3_about_89 rfl ?_
      refine xV_getMI e_X3_about_90 f_X3_51 m0 hmo ?_
      exact xV_ireturn e_X3_about_93 rfl rfl (by rw [qAbout, if_neg s31_0, if_pos s31_1, hB.1.1]; exact ⟨rfl, rfl, rfl, rfl⟩)
    by_cases s31_2 : what = nI 2
    · refine xV_tswIn (off := 63) (tgt := 94) e_X3_about_31 (by rw [s31_2]; decide) (by rw [s31_2]; decide) (by rw [s31_2]; rfl) (by decide) ?_
      refine xV_aload_n e_X3_about_94 rfl ?_
      refine xV_getR e_X3_about_95 f_X3_20 (by assumption) (by assumption) ?_
      refine xV_bipush (v := (nI 55)) e_X3_about_98 (by decide) ?_
      refine xV_ialdN e_X3_about_100 (by exact xRow.of (by assumption)) (by omega) (by omega) ?_
      exact xV_ireturn e_X3_about_101 rfl rfl (by rw [qAbout, if_neg s31_0, if_neg s31_1, if_pos s31_2, ← hPg.2.2.2.2.2.2.2.2]; exact ⟨rfl, rfl, rfl, rfl⟩)
    by_cases s31_3 : what = nI 3
    · refine xV_tswIn (off := 71) (tgt := 102) e_X3_about_31 (by rw [s31_3]; decide) (by rw [s31_3]; decide) (by rw [s31_3]; rfl) (by decide) ?_
      refine xV_aload_n e_X3_about_102 rfl ?_
      refine xV_getR e_X3_about_103 f_X3_20 (by assumption) (by assumption) ?_
      refine xV_bipush (v := (nI 54)) e_X3_about_106 (by decide) ?_
      refine xV_ialdN e_X3_about_108 (by exact xRow.of (by assumption)) (by omega) (by omega) ?_
      exact xV_ireturn e_X3_about_109 rfl rfl (by rw [qAbout, if_neg s31_0, if_neg s31_1, if_neg s31_2, if_pos s31_3, ← hPg.2.2.2.2.2.2.2.1]; exact ⟨rfl, rfl, rfl, rfl⟩)
    by_cases s31_4 : what = nI 4
    · refine xV_tswIn (off := 79) (tgt := 110) e_X3_about_31 (by rw [s31_4]; decide) (by rw [s31_4]; decide) (by rw [s31_4]; rfl) (by decide) ?_
      refine xV_aload_n e_X3_about_110 rfl ?_
      refine xV_getR e_X3_about_111 f_X3_20 (by assumption) (by assumption) ?_
      refine xV_bipush (v := (nI 48)) e_X3_about_114 (by decide) ?_
      refine xV_ialdN e_X3_about_116 (by exact xRow.of (by assumption)) (by omega) (by omega) ?_
      exact xV_ireturn e_X3_about_117 rfl rfl (by rw [qAbout, if_neg s31_0, if_neg s31_1, if_neg s31_2, if_neg s31_3, if_pos s31_4, ← hPg.2.2.2.2.2.1]; exact ⟨rfl, rfl, rfl, rfl⟩)
    by_cases s31_5 : what = nI 5
    · refine xV_tswIn (off := 87) (tgt := 118) e_X3_about_31 (by rw [s31_5]; decide) (by rw [s31_5]; decide) (by rw [s31_5]; rfl) (by decide) ?_
      refine xV_aload_n e_X3_about_118 rfl ?_
      refine xV_getR e_X3_about_119 f_X3_20 (by assumption) (by assumption) ?_
      refine xV_bipush (v := (nI 53)) e_X3_about_122 (by decide) ?_
      refine xV_ialdN e_X3_about_124 (by exact xRow.of (by assumption)) (by omega) (by omega) ?_
      exact xV_ireturn e_X3_about_125 rfl rfl (by rw [qAbout, if_neg s31_0, if_neg s31_1, if_neg s31_2, if_neg s31_3, if_neg s31_4, if_pos s31_5, ← hPg.2.2.2.2.2.2.1]; exact ⟨rfl, rfl, rfl, rfl⟩)
    by_cases s31_6 : what = nI 6
    · refine xV_tswIn (off := 95) (tgt := 126) e_X3_about_31 (by rw [s31_6]; decide) (by rw [s31_6]; decide) (by rw [s31_6]; rfl) (by decide) ?_
      refine xV_iload_n e_X3_about_126 rfl ?_
      exact xV_ireturn e_X3_about_127 rfl rfl (by rw [qAbout, if_neg s31_0, if_neg s31_1, if_neg s31_2, if_neg s31_3, if_neg s31_4, if_neg s31_5, if_pos s31_6, vSum_eq 12 hPg.1]; exact ⟨rfl, rfl, rfl, rfl⟩)
    by_cases s31_7 : what = nI 7
    · refine xV_tswIn (off := 97) (tgt := 128) e_X3_about_31 (by rw [s31_7]; decide) (by rw [s31_7]; decide) (by rw [s31_7]; rfl) (by decide) ?_
      refine xV_aload_n e_X3_about_128 rfl ?_
      refine xV_getI e_X3_about_129 f_X3_108 m0 ?_
      exact xV_ireturn e_X3_about_132 rfl rfl (by rw [qAbout, if_neg s31_0, if_neg s31_1, if_neg s31_2, if_neg s31_3, if_neg s31_4, if_neg s31_5, if_neg s31_6, if_pos s31_7]; exact ⟨rfl, rfl, rfl, rfl⟩)
    by_cases s31_8 : what = nI 8
    · refine xV_tswIn (off := 102) (tgt := 133) e_X3_about_31 (by rw [s31_8]; decide) (by rw [s31_8]; decide) (by rw [s31_8]; rfl) (by decide) ?_
      refine xV_aload_n e_X3_about_133 rfl ?_
      refine xV_getI e_X3_about_134 f_X3_111 m0 ?_
      exact xV_ireturn e_X3_about_137 rfl rfl (by rw [qAbout, if_neg s31_0, if_neg s31_1, if_neg s31_2, if_neg s31_3, if_neg s31_4, if_neg s31_5, if_neg s31_6, if_neg s31_7, if_pos s31_8]; exact ⟨rfl, rfl, rfl, rfl⟩)
    by_cases s31_9 : what = nI 9
    · refine xV_tswIn (off := 107) (tgt := 138) e_X3_about_31 (by rw [s31_9]; decide) (by rw [s31_9]; decide) (by rw [s31_9]; rfl) (by decide) ?_
      refine xV_aload_n e_X3_about_138 rfl ?_
      refine xV_getI e_X3_about_139 f_X3_62 m0 ?_
      exact xV_ireturn e_X3_about_142 rfl rfl (by rw [qAbout, if_neg s31_0, if_neg s31_1, if_neg s31_2, if_neg s31_3, if_neg s31_4, if_neg s31_5, if_neg s31_6, if_neg s31_7, if_neg s31_8, if_pos s31_9]; exact ⟨rfl, rfl, rfl, rfl⟩)
    refine xV_tswOut (tgt := 143) e_X3_about_31 (tsw_out (n := 9) (by decide) (fun k hk => by
      have e : k = 0 ∨ k = 1 ∨ k = 2 ∨ k = 3 ∨ k = 4 ∨ k = 5 ∨ k = 6 ∨ k = 7 ∨ k = 8 ∨ k = 9 := by omega
      rcases e with rfl | rfl | rfl | rfl | rfl | rfl | rfl | rfl | rfl | rfl <;> assumption)) (by decide) ?_
    refine xV_bipush (v := (-2)) e_X3_about_143 (by decide) ?_
    exact xV_ireturn e_X3_about_145 rfl rfl (by rw [qAbout, if_neg s31_0, if_neg s31_1, if_neg s31_2, if_neg s31_3, if_neg s31_4, if_neg s31_5, if_neg s31_6, if_neg s31_7, if_neg s31_8, if_neg s31_9]; exact ⟨rfl, rfl, rfl, rfl⟩)
  · refine xV_iload_n e_X3_about_15 rfl ?_
    refine xV_aload_n e_X3_about_16 rfl ?_
    refine xV_getR e_X3_about_17 f_X3_20 (by assumption) (by assumption) ?_
    refine xV_iload_n e_X3_about_20 rfl ?_
    refine xV_ialdN e_X3_about_21 (by exact xRow.of (by assumption)) (by omega) (by omega) ?_
    refine xV_iadd e_X3_about_22 ?_
    refine xV_istore_n e_X3_about_23 (Nat.le_of_ble_eq_true rfl) rfl ?_
    refine xV_iincN e_X3_about_24 rfl rfl ?_
    refine xV_goto e_X3_about_27 ?_
    exact ih (by omega)
set_option maxHeartbeats 4000000 in
set_option maxRecDepth 100000 in
theorem K_about {m mo E : Nat} {S : xS} (hX : XM G T R m) (hmo : I m 5 = nI mo) (hB : GB mo (I (m + 2)) S) (hV : GV mo E S) (hho : I m 4 = S.1 5) (hPg : PR mo S (I (m + 3))) (h0 : I m 0 = nI 0) {what : Int32} : xCon G Y_X3_about [.ref m, .int what] T R L I (xD (some (.int (qAbout S (I m 16) (I m 19) (I m 2) what))) T R L I) := by
  obtain ⟨m0, rt, st, rs, ss, rp, sp, rrp, srp, rrs, srs, rb, sb, rk, sk, ri, si, rc, sc, rv, sv, rr, sr⟩ := id hX
  have hm4 := hB.1.2.1
  refine xCon.mk (xl := [some (.ref m), some (.int what), none, none]) (by decide +kernel) (xle_r _) rfl (Nat.le_of_ble_eq_true rfl) rfl ?_
  refine xV_aload_n e_X3_about_0 rfl ?_
  refine xV_iconst (v := (nI 0)) e_X3_about_1 (by decide) ?_
  refine xV_putI e_X3_about_2 p_X3_48 (by assumption) ?_
  rw [xst_own h0]
  refine xV_iconst (v := (nI 0)) e_X3_about_5 (by decide) ?_
  refine xV_istore_n e_X3_about_6 (Nat.le_of_ble_eq_true rfl) rfl ?_
  refine xV_iconst (v := (nI 0)) e_X3_about_7 (by decide) ?_
  refine xV_istore_n e_X3_about_8 (Nat.le_of_ble_eq_true rfl) rfl ?_
  exact P_X3_about_9 hX hmo hB hV hho hPg 0 (Nat.zero_le _)
theorem bC_j {c : Int32} (h : bCell c = true) : ∃ j, j < 12 ∧ c = nI j := bL_k (n := 12) (by decide) h
theorem pOn_eq {mo : Nat} {S : xS} {P : Nat → Int32} {j : Nat} (hm : MOK mo S) (hp : ∀ k, k < mo → P (49 + k) = S.2.2.2.2.2 k) (hj : j < 12) : pOn P (nI j) mo = vOn S.2.2.2.2.2 (nI 1 <<< (nI j &&& 31)) mo := by
  have e : ∀ n, n ≤ mo → pOn P (nI j) n = vOn S.2.2.2.2.2 (nI 1 <<< (nI j &&& 31)) n := by
    intro n
    induction n with
    | zero => intro _; rfl
    | succ n ih =>
      intro h
      have hm4 := hm.2.1
      obtain ⟨w1, w2⟩ := hm.2.2 n (by omega)
      have a : hs (nI 1 <<< (nI j &&& 31)) (S.2.2.2.2.2 n) = decide (plN S.2.2.2.2.2 n = j) := by rw [w1, hs_one (by omega) (by omega)]
      rw [pOn, ih (by omega)]
      refine hs_ext fun k hk => ?_
      rw [hs_or hk, hs_vOn n (by omega) k hk, hs_vOn (n + 1) (by omega) k hk, dec_s, hp n (by omega)]
      have b3 : hs (if S.2.2.2.2.2 n = nI j then nI 1 <<< (nI n &&& 31) else nI 0) (nI k) = (decide (k = n) && decide (plN S.2.2.2.2.2 n = j)) := by
        by_cases z : plN S.2.2.2.2.2 n = j
        · rw [if_pos (by rw [w1, z]), hs_one (by omega) hk, decide_eq_true z, Bool.and_true]
        · rw [if_neg (fun y => z (by rw [w1] at y; exact (nI_eq (by omega) (by omega)).mp y)), hs_z hk, decide_eq_false z, Bool.and_false]
      rw [b3]
      by_cases q : k = n
      · subst q; rw [a]; simp
      · rw [decide_eq_false q]; simp
  exact e mo (Nat.le_refl _)
theorem bit1 {x : Int32} {j : Nat} : (x >>> (nI j &&& 31)) &&& nI 1 = if hs x (nI j) = true then nI 1 else nI 0 := by rw [hs_bit, and1, nI_0]
set_option maxHeartbeats 4000000 in
set_option maxRecDepth 100000 in
theorem K_cell {m mo E : Nat} {S : xS} (hX : XM G T R m) (hmo : I m 5 = nI mo) (hB : GB mo (I (m + 2)) S) (hV : GV mo E S) (hho : I m 4 = S.1 5) (hPg : PR mo S (I (m + 3))) (h0 : I m 0 = nI 0) {c what : Int32} : xCon G Y_X3_cell [.ref m, .int c, .int what] T R L I (xD (some (.int (qCell mo S c what))) T R L I) := by
  obtain ⟨m0, rt, st, rs, ss, rp, sp, rrp, srp, rrs, srs, rb, sb, rk, sk, ri, si, rc, sc, rv, sv, rr, sr⟩ := id hX
  have hm4 := hB.1.2.1
  refine xCon.mk (xl := [some (.ref m), some (.int c), some (.int what)]) (by decide +kernel) (xle_r _) rfl (Nat.le_of_ble_eq_true rfl) rfl ?_
  refine xV_aload_n e_X3_cell_0 rfl ?_
  refine xV_iconst (v := (nI 0)) e_X3_cell_1 (by decide) ?_
  refine xV_putI e_X3_cell_2 p_X3_48 (by assumption) ?_
  rw [xst_own h0]
  refine xV_iload_n e_X3_cell_5 rfl ?_
  refine xV_cS1i e_X3_cell_6 c_X3_114 (C_X3_noCell) (Nat.le_of_ble_eq_true rfl) ⟨(Nat.le_of_ble_eq_true rfl), (Nat.le_of_ble_eq_true rfl)⟩ (xle_r _) (xle_r _) ?_
  refine xV_if_eqB e_X3_cell_9 (fun h9 => ?_) (fun h9 => ?_)
  · have hc : bCell c = true := by simpa using h9
    obtain ⟨j, hj, rfl⟩ := bC_j hc
    refine xV_iload_n e_X3_cell_14 rfl ?_
    by_cases s15_0 : what = nI 0
    · refine xV_tswIn (off := 37) (tgt := 52) e_X3_cell_15 (by rw [s15_0]; decide) (by rw [s15_0]; decide) (by rw [s15_0]; rfl) (by decide) ?_
      refine xV_aload_n e_X3_cell_52 rfl ?_
      refine xV_getR e_X3_cell_53 f_X3_20 (by assumption) (by assumption) ?_
      refine xV_iload_n e_X3_cell_56 rfl ?_
      have ek : nI j = nI j := rfl
      refine xV_ialdN e_X3_cell_57 (by exact xRow.of (by assumption)) (by omega) (by omega) ?_
      exact xV_ireturn e_X3_cell_58 rfl rfl (by rw [qCell, if_pos hc, if_pos s15_0, xatN hj (by decide), ← hPg.1 j hj]; exact ⟨rfl, rfl, rfl, rfl⟩)
    by_cases s15_1 : what = nI 1
    · refine xV_tswIn (off := 44) (tgt := 59) e_X3_cell_15 (by rw [s15_1]; decide) (by rw [s15_1]; decide) (by rw [s15_1]; rfl) (by decide) ?_
      refine xV_aload_n e_X3_cell_59 rfl ?_
      refine xV_getR e_X3_cell_60 f_X3_20 (by assumption) (by assumption) ?_
      refine xV_bipush (v := (nI 12)) e_X3_cell_63 (by decide) ?_
      refine xV_iload_n e_X3_cell_65 rfl ?_
      refine xV_iaddN e_X3_cell_66 ?_
      refine xV_ialdN e_X3_cell_67 (by exact xRow.of (by assumption)) (by omega) (by omega) ?_
      exact xV_ireturn e_X3_cell_68 rfl rfl (by rw [qCell, if_pos hc, if_neg s15_0, if_pos s15_1, xatN hj (by decide), ← hPg.2.1 j hj]; exact ⟨rfl, rfl, rfl, rfl⟩)
    by_cases s15_2 : what = nI 2
    · refine xV_tswIn (off := 54) (tgt := 69) e_X3_cell_15 (by rw [s15_2]; decide) (by rw [s15_2]; decide) (by rw [s15_2]; rfl) (by decide) ?_
      refine xV_aload_n e_X3_cell_69 rfl ?_
      refine xV_getR e_X3_cell_70 f_X3_20 (by assumption) (by assumption) ?_
      refine xV_bipush (v := (nI 24)) e_X3_cell_73 (by decide) ?_
      refine xV_iload_n e_X3_cell_75 rfl ?_
      refine xV_iaddN e_X3_cell_76 ?_
      refine xV_ialdN e_X3_cell_77 (by exact xRow.of (by assumption)) (by omega) (by omega) ?_
      exact xV_ireturn e_X3_cell_78 rfl rfl (by rw [qCell, if_pos hc, if_neg s15_0, if_neg s15_1, if_pos s15_2, xatN hj (by decide), ← hPg.2.2.1 j hj]; exact ⟨rfl, rfl, rfl, rfl⟩)
    by_cases s15_3 : what = nI 3
    · refine xV_tswIn (off := 64) (tgt := 79) e_X3_cell_15 (by rw [s15_3]; decide) (by rw [s15_3]; decide) (by rw [s15_3]; rfl) (by decide) ?_
      refine xV_aload_n e_X3_cell_79 rfl ?_
      refine xV_getR e_X3_cell_80 f_X3_20 (by assumption) (by assumption) ?_
      refine xV_bipush (v := (nI 36)) e_X3_cell_83 (by decide) ?_
      refine xV_iload_n e_X3_cell_85 rfl ?_
      refine xV_iaddN e_X3_cell_86 ?_
      refine xV_ialdN e_X3_cell_87 (by exact xRow.of (by assumption)) (by omega) (by omega) ?_
      exact xV_ireturn e_X3_cell_88 rfl rfl (by rw [qCell, if_pos hc, if_neg s15_0, if_neg s15_1, if_neg s15_2, if_pos s15_3, xatN hj (by decide), ← hPg.2.2.2.1 j hj]; exact ⟨rfl, rfl, rfl, rfl⟩)
    by_cases s15_4 : what = nI 4
    · refine xV_tswIn (off := 74) (tgt := 89) e_X3_cell_15 (by rw [s15_4]; decide) (by rw [s15_4]; decide) (by rw [s15_4]; rfl) (by decide) ?_
      refine xV_aload_n e_X3_cell_89 rfl ?_
      refine xV_getR e_X3_cell_90 f_X3_20 (by assumption) (by assumption) ?_
      refine xV_bipush (v := (nI 48)) e_X3_cell_93 (by decide) ?_
      refine xV_ialdN e_X3_cell_95 (by exact xRow.of (by assumption)) (by omega) (by omega) ?_
      refine xV_iload_n e_X3_cell_96 rfl ?_
      refine xV_cS2i e_X3_cell_97 c_X3_70 (C_X3_hasH) (Nat.le_of_ble_eq_true rfl) ⟨(Nat.le_of_ble_eq_true rfl), (Nat.le_of_ble_eq_true rfl)⟩ (xle_r _) (xle_r _) ?_
      refine xV_if_eqB e_X3_cell_100 (fun h100 => ?_) (fun h100 => ?_)
      · refine xV_iconst (v := (nI 0)) e_X3_cell_107 (by decide) ?_
        exact xV_ireturn e_X3_cell_108 rfl rfl (by rw [qCell, if_pos hc, if_neg s15_0, if_neg s15_1, if_neg s15_2, if_neg s15_3, if_pos s15_4, ← hPg.2.2.2.2.2.1]; exact ⟨xret_f h100, rfl, rfl, rfl⟩)
      · refine xV_iconst (v := (nI 1)) e_X3_cell_103 (by decide) ?_
        refine xV_goto e_X3_cell_104 ?_
        exact xV_ireturn e_X3_cell_108 rfl rfl (by rw [qCell, if_pos hc, if_neg s15_0, if_neg s15_1, if_neg s15_2, if_neg s15_3, if_pos s15_4, ← hPg.2.2.2.2.2.1]; exact ⟨xret_t h100, rfl, rfl, rfl⟩)
    by_cases s15_5 : what = nI 5
    · refine xV_tswIn (off := 94) (tgt := 109) e_X3_cell_15 (by rw [s15_5]; decide) (by rw [s15_5]; decide) (by rw [s15_5]; rfl) (by decide) ?_
      refine xV_aload_n e_X3_cell_109 rfl ?_
      refine xV_iload_n e_X3_cell_110 rfl ?_
      refine xV_cV1i e_X3_cell_111 c_X3_118 (by assumption) (C_X3_thereOf hX hmo hm4) (Nat.le_of_ble_eq_true rfl) ⟨(Nat.le_of_ble_eq_true rfl), (Nat.le_of_ble_eq_true rfl)⟩ (xle_r _) (xle_r _) ?_
      exact xV_ireturn e_X3_cell_114 rfl rfl (by rw [qCell, if_pos hc, if_neg s15_0, if_neg s15_1, if_neg s15_2, if_neg s15_3, if_neg s15_4, if_pos s15_5, pOn_eq hB.1 hPg.2.2.2.2.1 hj]; exact ⟨rfl, rfl, rfl, rfl⟩)
    refine xV_tswOut (tgt := 115) e_X3_cell_15 (tsw_out (n := 5) (by decide) (fun k hk => by
      have e : k = 0 ∨ k = 1 ∨ k = 2 ∨ k = 3 ∨ k = 4 ∨ k = 5 := by omega
      rcases e with rfl | rfl | rfl | rfl | rfl | rfl <;> assumption)) (by decide) ?_
    refine xV_bipush (v := (-2)) e_X3_cell_115 (by decide) ?_
    exact xV_ireturn e_X3_cell_117 rfl rfl (by rw [qCell, if_pos hc, if_neg s15_0, if_neg s15_1, if_neg s15_2, if_neg s15_3, if_neg s15_4, if_neg s15_5]; exact ⟨rfl, rfl, rfl, rfl⟩)
  · refine xV_iconst (v := (-1)) e_X3_cell_12 (by decide) ?_
    exact xV_ireturn e_X3_cell_13 rfl rfl (by rw [qCell, if_neg (bl_f (by simpa using h9))]; exact ⟨rfl, rfl, rfl, rfl⟩)
theorem sect_v {x : Int32} (h : x = nI 0 ∨ x = nI 1) : (if decide (x = nI 1) = true then nI 1 else nI 0) = x := by
  rcases h with rfl | rfl
  · rfl
  · rfl
theorem vF_dead {mo j : Nat} {se : Nat → Int32} {S : xS} (hB : GB mo se S) (h : hs (S.1 8) (nI j) = true) (hj : j < 32 := by omega) : vForce mo S.1 S.2.2.2.2.2 j = nI 0 := by
  unfold vForce
  rw [if_neg (bl_f (by rw [hs_liv hB.1.1 hB.1.2.1 hj, h]; simp))]
set_option maxHeartbeats 4000000 in
set_option maxRecDepth 100000 in
theorem K_monk {m mo E : Nat} {S : xS} (hX : XM G T R m) (hmo : I m 5 = nI mo) (hB : GB mo (I (m + 2)) S) (hV : GV mo E S) (hho : I m 4 = S.1 5) (hPg : PR mo S (I (m + 3))) (h0 : I m 0 = nI 0) {v what : Int32} : xCon G Y_X3_monk [.ref m, .int v, .int what] T R L I (xD (some (.int (qMonk mo S v what))) T R L I) := by
  obtain ⟨m0, rt, st, rs, ss, rp, sp, rrp, srp, rrs, srs, rb, sb, rk, sk, ri, si, rc, sc, rv, sv, rr, sr⟩ := id hX
  have hm4 := hB.1.2.1
  refine xCon.mk (xl := [some (.ref m), some (.int v), some (.int what), none]) (by decide +kernel) (xle_r _) rfl (Nat.le_of_ble_eq_true rfl) rfl ?_
  refine xV_aload_n e_X3_monk_0 rfl ?_
  refine xV_iconst (v := (nI 0)) e_X3_monk_1 (by decide) ?_
  refine xV_putI e_X3_monk_2 p_X3_48 (by assumption) ?_
  rw [xst_own h0]
  refine xV_aload_n e_X3_monk_5 rfl ?_
  refine xV_iload_n e_X3_monk_6 rfl ?_
  refine xV_cV1i e_X3_monk_7 c_X3_124 (by assumption) (C_X3_noMonk hX hmo hB hV hho) (Nat.le_of_ble_eq_true rfl) ⟨(Nat.le_of_ble_eq_true rfl), (Nat.le_of_ble_eq_true rfl)⟩ (xle_r _) (xle_r _) ?_
  refine xV_if_eqB e_X3_monk_10 (fun h10 => ?_) (fun h10 => ?_)
  · have hmk : bMonk S.1 v = true := by simpa using h10
    obtain ⟨ev, hj⟩ := bLiv_N hB.1.1 (by omega) hmk
    obtain ⟨j, ej⟩ : ∃ j, v.toNatClampNeg = j := ⟨_, rfl⟩
    rw [ej] at ev hj
    subst ev
    refine xV_aload_n e_X3_monk_15 rfl ?_
    refine xV_getR e_X3_monk_16 f_X3_20 (by assumption) (by assumption) ?_
    refine xV_bipush (v := (nI 53)) e_X3_monk_19 (by decide) ?_
    refine xV_ialdN e_X3_monk_21 (by exact xRow.of (by assumption)) (by omega) (by omega) ?_
    refine xV_iload_n e_X3_monk_22 rfl ?_
    refine xV_cS2i e_X3_monk_23 c_X3_70 (C_X3_hasH) (Nat.le_of_ble_eq_true rfl) ⟨(Nat.le_of_ble_eq_true rfl), (Nat.le_of_ble_eq_true rfl)⟩ (xle_r _) (xle_r _) ?_
    refine xV_istore_n e_X3_monk_26 (Nat.le_of_ble_eq_true rfl) rfl ?_
    refine xV_iload_n e_X3_monk_27 rfl ?_
    by_cases s28_0 : what = nI 0
    · refine xV_tswIn (off := 32) (tgt := 60) e_X3_monk_28 (by rw [s28_0]; decide) (by rw [s28_0]; decide) (by rw [s28_0]; rfl) (by decide) ?_
      refine xV_aload_n e_X3_monk_60 rfl ?_
      refine xV_getR e_X3_monk_61 f_X3_20 (by assumption) (by assumption) ?_
      refine xV_bipush (v := (nI 49)) e_X3_monk_64 (by decide) ?_
      refine xV_iload_n e_X3_monk_66 rfl ?_
      refine xV_iaddN e_X3_monk_67 ?_
      refine xV_ialdN e_X3_monk_68 (by exact xRow.of (by assumption)) (by omega) (by omega) ?_
      exact xV_ireturn e_X3_monk_69 rfl rfl (by rw [qMonk, if_pos hmk, if_pos s28_0, xatN (by omega) (by decide), ← hPg.2.2.2.2.1 j hj]; exact ⟨rfl, rfl, rfl, rfl⟩)
    by_cases s28_1 : what = nI 1
    · refine xV_tswIn (off := 42) (tgt := 70) e_X3_monk_28 (by rw [s28_1]; decide) (by rw [s28_1]; decide) (by rw [s28_1]; rfl) (by decide) ?_
      refine xV_aload_n e_X3_monk_70 rfl ?_
      refine xV_getR e_X3_monk_71 f_X3_17 (by assumption) (by assumption) ?_
      refine xV_iload_n e_X3_monk_74 rfl ?_
      refine xV_ialdN e_X3_monk_75 (by exact xRow.of (by assumption)) (by omega) (by omega) ?_
      exact xV_ireturn e_X3_monk_76 rfl rfl (by rw [qMonk, if_pos hmk, if_neg s28_0, if_pos s28_1, bit1, (hB.2.2 j hj).2, sect_v (hB.2.2 j hj).1]; exact ⟨rfl, rfl, rfl, rfl⟩)
    by_cases s28_2 : what = nI 2
    · refine xV_tswIn (off := 49) (tgt := 77) e_X3_monk_28 (by rw [s28_2]; decide) (by rw [s28_2]; decide) (by rw [s28_2]; rfl) (by decide) ?_
      refine xV_iload_n e_X3_monk_77 rfl ?_
      refine xV_if_eqB e_X3_monk_78 (fun h78 => ?_) (fun h78 => ?_)
      · refine xV_iconst (v := (nI 0)) e_X3_monk_85 (by decide) ?_
        exact xV_ireturn e_X3_monk_86 rfl rfl (by rw [qMonk, if_pos hmk, if_neg s28_0, if_neg s28_1, if_pos s28_2, bit1, if_neg (bl_f (show hs (S.1 8) (nI j) = false from by rw [← hPg.2.2.2.2.2.2.1]; exact h78))]; exact ⟨rfl, rfl, rfl, rfl⟩)
      · refine xV_iconst (v := (nI 1)) e_X3_monk_81 (by decide) ?_
        refine xV_goto e_X3_monk_82 ?_
        exact xV_ireturn e_X3_monk_86 rfl rfl (by rw [qMonk, if_pos hmk, if_neg s28_0, if_neg s28_1, if_pos s28_2, bit1, if_pos (show hs (S.1 8) (nI j) = true from by rw [← hPg.2.2.2.2.2.2.1]; exact h78)]; exact ⟨rfl, rfl, rfl, rfl⟩)
    by_cases s28_3 : what = nI 3
    · refine xV_tswIn (off := 59) (tgt := 87) e_X3_monk_28 (by rw [s28_3]; decide) (by rw [s28_3]; decide) (by rw [s28_3]; rfl) (by decide) ?_
      refine xV_iload_n e_X3_monk_87 rfl ?_
      refine xV_if_eqB e_X3_monk_88 (fun h88 => ?_) (fun h88 => ?_)
      · refine xV_aload_n e_X3_monk_95 rfl ?_
        refine xV_aload_n e_X3_monk_96 rfl ?_
        refine xV_getR e_X3_monk_97 f_X3_20 (by assumption) (by assumption) ?_
        refine xV_iload_n e_X3_monk_100 rfl ?_
        refine xV_cV2i e_X3_monk_101 c_X3_127 (by assumption) (C_X3_timesI hX hmo hB hV hho hPg hj (show hs (S.1 8) (nI j) = false from by rw [← hPg.2.2.2.2.2.2.1]; exact h88)) (Nat.le_of_ble_eq_true rfl) ⟨(Nat.le_of_ble_eq_true rfl), (Nat.le_of_ble_eq_true rfl)⟩ (xle_r _) (xle_r _) ?_
        exact xV_ireturn e_X3_monk_104 rfl rfl (by rw [qMonk, if_pos hmk, if_neg s28_0, if_neg s28_1, if_neg s28_2, if_pos s28_3, nI_clamp (by omega)]; exact ⟨rfl, rfl, rfl, rfl⟩)
      · refine xV_iconst (v := (nI 0)) e_X3_monk_91 (by decide) ?_
        refine xV_goto e_X3_monk_92 ?_
        exact xV_ireturn e_X3_monk_104 rfl rfl (by rw [qMonk, if_pos hmk, if_neg s28_0, if_neg s28_1, if_neg s28_2, if_pos s28_3, nI_clamp (by omega), vF_dead hB (show hs (S.1 8) (nI j) = true from by rw [← hPg.2.2.2.2.2.2.1]; exact h88)]; exact ⟨rfl, rfl, rfl, rfl⟩)
    refine xV_tswOut (tgt := 105) e_X3_monk_28 (tsw_out (n := 3) (by decide) (fun k hk => by
      have e : k = 0 ∨ k = 1 ∨ k = 2 ∨ k = 3 := by omega
      rcases e with rfl | rfl | rfl | rfl <;> assumption)) (by decide) ?_
    refine xV_bipush (v := (-2)) e_X3_monk_105 (by decide) ?_
    exact xV_ireturn e_X3_monk_107 rfl rfl (by rw [qMonk, if_pos hmk, if_neg s28_0, if_neg s28_1, if_neg s28_2, if_neg s28_3]; exact ⟨rfl, rfl, rfl, rfl⟩)
  · refine xV_iconst (v := (-1)) e_X3_monk_13 (by decide) ?_
    exact xV_ireturn e_X3_monk_14 rfl rfl (by rw [qMonk, if_neg (bl_f (by simpa using h10))]; exact ⟨rfl, rfl, rfl, rfl⟩)
def iSeM (I : xI) (m n : Nat) (c d : Int32) : xI := xst (xst (xst I (m + 9) n c) (m + 10) n d) m 19 (nI (n + 1))
theorem qSee_d {n : Nat} {c d : Int32} (hc : bCell c = true) (h : (decide (nI 0 ≤ d) && decide (d ≤ nI 100)) = false) : (some (Value.int (-2)) = some (.int (qSee n c d))) ∧ bSee n c d = false := by
  unfold qSee bSee
  rw [if_pos hc, hc]
  by_cases z : d < 0
  · rw [if_pos z, decide_eq_true z]; exact ⟨rfl, rfl⟩
  · rw [if_neg z]
    have y : ¬ d ≤ nI 100 := fun y => by
      rw [decide_eq_true (show nI 0 ≤ d by rw [nI_0]; exact Int32.not_lt.mp z), decide_eq_true y] at h
      cases h
    rw [if_neg y, decide_eq_false y]
    exact ⟨rfl, by simp⟩
theorem see_c {d : Int32} (h : (decide (nI 0 ≤ d) && decide (d ≤ nI 100)) = true) : ¬ d < 0 ∧ d ≤ nI 100 := by
  simp only [Bool.and_eq_true, decide_eq_true_eq] at h
  exact ⟨by rw [← nI_0]; exact Int32.not_lt.mpr h.1, h.2⟩
theorem qSee_f {n : Nat} {c d : Int32} (hc : bCell c = true) (h : (decide (nI 0 ≤ d) && decide (d ≤ nI 100)) = true) (hn : ¬ n < 6) : (some (Value.int (-4)) = some (.int (qSee n c d))) ∧ bSee n c d = false := by
  obtain ⟨a1, a2⟩ := see_c h
  unfold qSee bSee
  rw [if_pos hc, hc, if_neg a1, if_pos a2, if_neg hn, decide_eq_false hn]
  exact ⟨rfl, by simp⟩
theorem qSee_y {n : Nat} {c d : Int32} (hc : bCell c = true) (h : (decide (nI 0 ≤ d) && decide (d ≤ nI 100)) = true) (hn : n < 6) : (some (Value.int (nI (n + 1))) = some (.int (qSee n c d))) ∧ bSee n c d = true := by
  obtain ⟨a1, a2⟩ := see_c h
  unfold qSee bSee
  rw [if_pos hc, hc, if_neg a1, if_pos a2, if_pos hn, decide_eq_true hn, decide_eq_false a1, decide_eq_true a2]
  exact ⟨rfl, rfl⟩
set_option maxHeartbeats 4000000 in
set_option maxRecDepth 100000 in
theorem K_see {m : Nat} (hX : XM G T R m) (h0 : I m 0 = nI 0) {n : Nat} (hsn : I m 19 = nI n) (hn6 : n ≤ 6) {c d : Int32} : xCon G Y_X3_see [.ref m, .int c, .int d] T R L I (xD (some (.int (qSee n c d))) T R L (if bSee n c d = true then iSeM I m n c d else I)) := by
  obtain ⟨m0, rt, st, rs, ss, rp, sp, rrp, srp, rrs, srs, rb, sb, rk, sk, ri, si, rc, sc, rv, sv, rr, sr⟩ := id hX
  refine xCon.mk (xl := [some (.ref m), some (.int c), some (.int d)]) (by decide +kernel) (xle_r _) rfl (Nat.le_of_ble_eq_true rfl) rfl ?_
  refine xV_aload_n e_X3_see_0 rfl ?_
  refine xV_iconst (v := (nI 0)) e_X3_see_1 (by decide) ?_
  refine xV_putI e_X3_see_2 p_X3_48 (by assumption) ?_
  rw [xst_own h0]
  refine xV_iload_n e_X3_see_5 rfl ?_
  refine xV_cS1i e_X3_see_6 c_X3_114 (C_X3_noCell) (Nat.le_of_ble_eq_true rfl) ⟨(Nat.le_of_ble_eq_true rfl), (Nat.le_of_ble_eq_true rfl)⟩ (xle_r _) (xle_r _) ?_
  refine xV_if_eqB e_X3_see_9 (fun h9 => ?_) (fun h9 => ?_)
  · refine xV_iload_n e_X3_see_14 rfl ?_
    refine xV_i2l e_X3_see_15 ?_
    refine xV_lconst (v := 0) e_X3_see_16 (by decide) ?_
    refine xV_ldc2 e_X3_see_17 k_X3_172 ?_
    refine xV_cS3i e_X3_see_20 c_X3_54 (C_X3_in) (Nat.le_of_ble_eq_true rfl) ⟨(Nat.le_of_ble_eq_true rfl), (Nat.le_of_ble_eq_true rfl)⟩ (xle_r _) (xle_r _) ?_
    rw [bL_N (a := 0) (b := 100) (by decide) (by decide)]
    refine xV_if_neB e_X3_see_23 (fun h23 => ?_) (fun h23 => ?_)
    · refine xV_aload_n e_X3_see_29 rfl ?_
      refine xV_getI e_X3_see_30 f_X3_111 m0 ?_
      rw [hsn]
      refine xV_bipush (v := (nI 6)) e_X3_see_33 (by decide) ?_
      refine xV_icmp_neN e_X3_see_35 (by omega) (by omega) (fun h35 => ?_) (fun h35 => ?_)
      · refine xV_aload_n e_X3_see_41 rfl ?_
        refine xV_getR e_X3_see_42 f_X3_39 (by assumption) (by assumption) ?_
        refine xV_aload_n e_X3_see_45 rfl ?_
        refine xV_getI e_X3_see_46 f_X3_111 m0 ?_
        rw [hsn]
        refine xV_iload_n e_X3_see_49 rfl ?_
        refine xV_iastN e_X3_see_50 (by assumption) (by omega) (by omega) ?_
        refine xV_aload_n e_X3_see_51 rfl ?_
        refine xV_getR e_X3_see_52 f_X3_42 (by assumption) (by assumption) ?_
        refine xV_aload_n e_X3_see_55 rfl ?_
        refine xV_getI e_X3_see_56 f_X3_111 m0 ?_
        have e1 : (xst I (m + 9) n c) m 19 = nI n := by rw [xst_o (by omega)]; exact hsn
        rw [e1]
        refine xV_iload_n e_X3_see_59 rfl ?_
        refine xV_iastN e_X3_see_60 (by assumption) (by omega) (by omega) ?_
        refine xV_aload_n e_X3_see_61 rfl ?_
        refine xV_dup e_X3_see_62 rfl ?_
        refine xV_getI e_X3_see_63 f_X3_111 m0 ?_
        have e2 : (xst (xst I (m + 9) n c) (m + 10) n d) m 19 = nI n := by rw [xst_o (by omega), xst_o (by omega)]; exact hsn
        rw [e2]
        refine xV_iconst (v := (nI 1)) e_X3_see_66 (by decide) ?_
        refine xV_iaddN e_X3_see_67 ?_
        refine xV_putI e_X3_see_68 p_X3_111 (by assumption) ?_
        refine xV_aload_n e_X3_see_71 rfl ?_
        refine xV_getI e_X3_see_72 f_X3_111 m0 ?_
        rw [show xst (xst (xst I (m + 9) n c) (m + 10) n d) m 19 (nI (n + 1)) = iSeM I m n c d from rfl, show iSeM I m n c d m 19 = nI (n + 1) from by unfold iSeM; rw [xst_s]; rfl]
        exact xV_ireturn e_X3_see_75 rfl rfl ⟨(qSee_y (by simpa using h9) h23 (by omega)).1, rfl, rfl, by rw [if_pos (qSee_y (by simpa using h9) h23 (by omega)).2]⟩
      · refine xV_bipush (v := (-4)) e_X3_see_38 (by decide) ?_
        exact xV_ireturn e_X3_see_40 rfl rfl ⟨(qSee_f (by simpa using h9) h23 (by omega)).1, rfl, rfl, by rw [if_neg (bl_f (qSee_f (by simpa using h9) h23 (by omega)).2)]⟩
    · refine xV_bipush (v := (-2)) e_X3_see_26 (by decide) ?_
      exact xV_ireturn e_X3_see_28 rfl rfl ⟨(qSee_d (by simpa using h9) h23).1, rfl, rfl, by rw [if_neg (bl_f (qSee_d (n := n) (by simpa using h9) h23).2)]⟩
  · refine xV_iconst (v := (-1)) e_X3_see_12 (by decide) ?_
    exact xV_ireturn e_X3_see_13 rfl rfl ⟨by rw [qSee, if_neg (bl_f (by simpa using h9))], rfl, rfl, by rw [if_neg (bl_f (by rw [bSee, show bCell c = false by simpa using h9, Bool.false_and]))]⟩
theorem xst_va {I : xI} {a m k : Nat} {v : Int32} {B : Nat → Int32} (h : m ≠ a) : xst (va_up I a B) m k v = va_up (xst I m k v) a B := by
  funext q
  by_cases e : q = m
  · subst e; rw [xst_s, va_up_n h, va_up_n h, xst_s]
  · rw [xst_o e]
    by_cases e2 : q = a
    · subst e2; rw [va_up_s, va_up_s]
    · rw [va_up_n e2, va_up_n e2, xst_o e]
theorem xst_xst {I : xI} {m k : Nat} {v w : Int32} : xst (xst I m k v) m k w = xst I m k w := by
  funext q
  by_cases e : q = m
  · subst e; rw [xst_s, xst_s, xst_s, upd_twice]
  · rw [xst_o e, xst_o e, xst_o e]
theorem g64_l : ∀ j, j < 8 → (((nI (8 * j)).toInt64 &&& 63).toBitVec.smod 64).toNat = 8 * j := by decide +kernel
theorem g64_u : ∀ j, j < 8 → (((nI (8 * j)).toInt64.toUInt64 &&& Int64.toUInt64 63).toBitVec % 64).toNat = 8 * j := by decide +kernel
theorem bt_i {x : Int64} {i : Nat} (h : i < 32) : bt x.toInt32 i = x.toBitVec.getLsbD i := by
  unfold bt
  rw [Int64.toBitVec_toInt32, BitVec.getLsbD_signExtend, decide_eq_true h, Bool.true_and, if_pos (by omega)]
theorem bv_M {v : Int64} {j : Nat} (hj : j < 8) : (v >>> ((nI (8 * j)).toInt64 &&& 63)).toInt32 &&& nI 255 = bv v j := by
  unfold bv
  apply b_ext
  intro i hi
  rw [b_and, b_and, show (nI 255 : Int32) = 255 from rfl, b_255]
  by_cases c : i < 8
  · congr 1
    rw [bt_i hi, bt_i hi, Int64.toBitVec_shiftRight]
    show (v.toBitVec.sshiftRight (((nI (8 * j)).toInt64 &&& 63).toBitVec.smod 64).toNat).getLsbD i = (v.toUInt64 >>> ((nI (8 * j)).toInt64.toUInt64 &&& Int64.toUInt64 63)).toBitVec.getLsbD i
    rw [UInt64.toBitVec_shiftRight]
    show _ = (v.toUInt64.toBitVec >>> (((nI (8 * j)).toInt64.toUInt64 &&& Int64.toUInt64 63).toBitVec % 64).toNat).getLsbD i
    rw [g64_l j hj, g64_u j hj, BitVec.getLsbD_sshiftRight, BitVec.getLsbD_ushiftRight, if_pos (by omega), decide_eq_false (by omega)]
    rfl
  · rw [decide_eq_false c, Bool.and_false, Bool.and_false]
/-- the Model's text and its length behind i bytes -/
def iWm (I : xI) (m len n : Nat) (v : Int64) (i : Nat) : xI := va_up (xst I m 2 (nI (len + i))) (m + 1) (tW (I (m + 1)) len n v i)
theorem iWm_0 {I : xI} {m len n : Nat} {v : Int64} (hl : I m 2 = nI len) : iWm I m len n v 0 = I := by
  unfold iWm
  rw [Nat.add_zero, xst_own hl, tW, va_up_own]
set_option maxHeartbeats 4000000 in
set_option maxRecDepth 100000 in
theorem P_X3_write_39 {m len n : Nat} {v : Int64} (hX : XM G T R m) (hn8 : n ≤ 8) (hb : len + n ≤ 72) : ∀ k, k ≤ n → xV G Y_X3_write T (xD (some (.int (nI (len + n)))) T R L (iWm I m len n v n)) 39 [some (.ref m), some (.int (nI n)), some (.long v), none, some (.int (lf (n - k)))] [] T R L (va_up (xst I m 2 (nI (len + k))) (m + 1) (tW (I (m + 1)) len n v k)) := by
  obtain ⟨m0, rt, st, rs, ss, rp, sp, rrp, srp, rrs, srs, rb, sb, rk, sk, ri, si, rc, sc, rv, sv, rr, sr⟩ := id hX
  refine xloop n (fun k hk0 ih => ?_)
  have hcase : (k = n ∧ lf (n - k) < 0) ∨ (k < n ∧ lf (n - k) = nI (n - k - 1)) := by
    by_cases e : k = n
    · exact Or.inl ⟨e, by rw [e, Nat.sub_self]; exact lf_0⟩
    · refine Or.inr ⟨by omega, ?_⟩
      rw [show n - k = (n - k - 1) + 1 by omega, lf_s]
      rfl
  refine xV_iload e_X3_write_39 rfl ?_
  refine xV_if_lt e_X3_write_41 (fun h41 => ?_) (fun h41 => ?_)
  · have hkn : k = n := by
      rcases hcase with z | z
      · exact z.1
      · rw [z.2] at h41
        exact absurd h41 (nI_pos (by omega))
    subst hkn
    refine xV_aload_n e_X3_write_81 rfl ?_
    refine xV_getO e_X3_write_82 f_X3_62 m0 (by omega) ?_
    rw [xst_s, upd_s]
    exact xV_ireturn e_X3_write_85 rfl rfl ⟨rfl, rfl, rfl, rfl⟩
  · have hkn : k < n ∧ lf (n - k) = nI (n - k - 1) := by
      rcases hcase with z | z
      · exact absurd z.2 h41
      · exact z
    rw [hkn.2]
    have hlt := hkn.1
    refine xV_aload_n e_X3_write_44 rfl ?_
    refine xV_getR e_X3_write_45 f_X3_7 (by assumption) (by assumption) ?_
    refine xV_aload_n e_X3_write_48 rfl ?_
    refine xV_getO e_X3_write_49 f_X3_62 m0 (by omega) ?_
    rw [xst_s, upd_s]
    refine xV_lload_n e_X3_write_52 rfl ?_
    refine xV_bipush (v := (nI 8)) e_X3_write_53 (by decide) ?_
    refine xV_iload e_X3_write_55 rfl ?_
    refine xV_imulN e_X3_write_57 ?_
    refine xV_lshr e_X3_write_58 ?_
    refine xV_l2i e_X3_write_59 ?_
    refine xV_sipush (v := (nI 255)) e_X3_write_60 (by decide) ?_
    refine xV_iand e_X3_write_63 ?_
    rw [bv_M (by omega), show n - k - 1 = n - 1 - k by omega]
    refine xV_iastP e_X3_write_64 (by assumption) (by omega) (by omega) ?_
    refine xV_aload_n e_X3_write_65 rfl ?_
    refine xV_dup e_X3_write_66 rfl ?_
    refine xV_getO e_X3_write_67 f_X3_62 m0 (by omega) ?_
    rw [xst_s, upd_s]
    refine xV_iconst (v := (nI 1)) e_X3_write_70 (by decide) ?_
    refine xV_iaddN e_X3_write_71 ?_
    refine xV_putI e_X3_write_72 p_X3_62 (by assumption) ?_
    rw [xst_va (by omega), xst_xst, show n - 1 - k = n - k - 1 by omega]
    refine xV_iinc e_X3_write_75 rfl rfl rfl ?_
    refine xV_goto e_X3_write_78 ?_
    rw [show tW (I (m + 1)) len n v (k + 1) = upd (tW (I (m + 1)) len n v k) (len + k) (bv v (n - 1 - k)) from rfl, show n - 1 - k = n - k - 1 by omega] at ih
    have e3 : nI (n - k - 1) + Int32.ofInt (-1) = lf (n - (k + 1)) := by rw [lf_m, Nat.sub_sub]
    rw [e3]
    exact ih (by omega)
theorem uW_y {n : Nat} (h1 : 1 ≤ n) (h8 : n ≤ 8) : (decide (nI 1 ≤ nI n) && decide (nI n ≤ nI 8)) = true := by rw [decide_eq_true (nI_le h1 (by omega)), decide_eq_true (nI_le h8 (by decide))]; rfl
set_option maxHeartbeats 4000000 in
set_option maxRecDepth 100000 in
theorem K_writeOk {m : Nat} (hX : XM G T R m) (h0 : I m 0 = nI 0) {len n : Nat} {v : Int64} (hl : I m 2 = nI len) (h1n : 1 ≤ n) (hn8 : n ≤ 8) (hb : len + n ≤ 72) : xCon G Y_X3_write [.ref m, .int (nI n), .long v] T R L I (xD (some (.int (nI (len + n)))) T R L (iWm I m len n v n)) := by
  obtain ⟨m0, rt, st, rs, ss, rp, sp, rrp, srp, rrs, srs, rb, sb, rk, sk, ri, si, rc, sc, rv, sv, rr, sr⟩ := id hX
  refine xCon.mk (xl := [some (.ref m), some (.int (nI n)), some (.long v), none, none]) (by decide +kernel) (xle_r _) rfl (Nat.le_of_ble_eq_true rfl) rfl ?_
  refine xV_aload_n e_X3_write_0 rfl ?_
  refine xV_iconst (v := (nI 0)) e_X3_write_1 (by decide) ?_
  refine xV_putI e_X3_write_2 p_X3_48 (by assumption) ?_
  rw [xst_own h0]
  refine xV_iload_n e_X3_write_5 rfl ?_
  refine xV_i2l e_X3_write_6 ?_
  refine xV_lconst (v := 1) e_X3_write_7 (by decide) ?_
  refine xV_ldc2 e_X3_write_8 k_X3_60 ?_
  refine xV_cS3i e_X3_write_11 c_X3_54 (C_X3_in) (Nat.le_of_ble_eq_true rfl) ⟨(Nat.le_of_ble_eq_true rfl), (Nat.le_of_ble_eq_true rfl)⟩ (xle_r _) (xle_r _) ?_
  rw [bL_N (a := 1) (b := 8) (by decide) (by decide)]
  refine xV_if_neB e_X3_write_14 (fun h14 => ?_) (fun h14 => ?_)
  · refine xV_aload_n e_X3_write_20 rfl ?_
    refine xV_getI e_X3_write_21 f_X3_62 m0 ?_
    rw [hl]
    refine xV_iload_n e_X3_write_24 rfl ?_
    refine xV_iaddN e_X3_write_25 ?_
    refine xV_bipush (v := (nI 72)) e_X3_write_26 (by decide) ?_
    refine xV_icmp_leN e_X3_write_28 (by omega) (by omega) (fun h28 => ?_) (fun h28 => ?_)
    · refine xV_iload_n e_X3_write_34 rfl ?_
      refine xV_iconst (v := (nI 1)) e_X3_write_35 (by decide) ?_
      refine xV_isub e_X3_write_36 ?_
      refine xV_istore e_X3_write_37 (Nat.le_of_ble_eq_true rfl) rfl ?_
      have q := P_X3_write_39 (L := L) (I := I) (v := v) hX hn8 hb 0 (Nat.zero_le _)
      rw [show va_up (xst I m 2 (nI (len + 0))) (m + 1) (tW (I (m + 1)) len n v 0) = I from iWm_0 hl] at q
      exact xV_sub (xl' := [some (.ref m), some (.int (nI n)), some (.long v), none, some (.int (nI n - nI 1))]) ⟨rfl, rfl, rfl, rfl, trivial⟩ q
    · exact absurd h28 (by omega)
  · exact absurd (uW_y h1n hn8) (bl_f h14)
set_option maxHeartbeats 4000000 in
set_option maxRecDepth 100000 in
theorem K_writeFull {m : Nat} (hX : XM G T R m) (h0 : I m 0 = nI 0) {len n : Nat} {v : Int64} (hl : I m 2 = nI len) (h1n : 1 ≤ n) (hn8 : n ≤ 8) (hl2 : len ≤ 72) (hb : 72 < len + n) : xCon G Y_X3_write [.ref m, .int (nI n), .long v] T R L I (xD (some (.int (-4))) T R L I) := by
  obtain ⟨m0, rt, st, rs, ss, rp, sp, rrp, srp, rrs, srs, rb, sb, rk, sk, ri, si, rc, sc, rv, sv, rr, sr⟩ := id hX
  refine xCon.mk (xl := [some (.ref m), some (.int (nI n)), some (.long v), none, none]) (by decide +kernel) (xle_r _) rfl (Nat.le_of_ble_eq_true rfl) rfl ?_
  refine xV_aload_n e_X3_write_0 rfl ?_
  refine xV_iconst (v := (nI 0)) e_X3_write_1 (by decide) ?_
  refine xV_putI e_X3_write_2 p_X3_48 (by assumption) ?_
  rw [xst_own h0]
  refine xV_iload_n e_X3_write_5 rfl ?_
  refine xV_i2l e_X3_write_6 ?_
  refine xV_lconst (v := 1) e_X3_write_7 (by decide) ?_
  refine xV_ldc2 e_X3_write_8 k_X3_60 ?_
  refine xV_cS3i e_X3_write_11 c_X3_54 (C_X3_in) (Nat.le_of_ble_eq_true rfl) ⟨(Nat.le_of_ble_eq_true rfl), (Nat.le_of_ble_eq_true rfl)⟩ (xle_r _) (xle_r _) ?_
  rw [bL_N (a := 1) (b := 8) (by decide) (by decide)]
  refine xV_if_neB e_X3_write_14 (fun h14 => ?_) (fun h14 => ?_)
  · refine xV_aload_n e_X3_write_20 rfl ?_
    refine xV_getI e_X3_write_21 f_X3_62 m0 ?_
    rw [hl]
    refine xV_iload_n e_X3_write_24 rfl ?_
    refine xV_iaddN e_X3_write_25 ?_
    refine xV_bipush (v := (nI 72)) e_X3_write_26 (by decide) ?_
    refine xV_icmp_leN e_X3_write_28 (by omega) (by omega) (fun h28 => ?_) (fun h28 => ?_)
    · exact absurd h28 (by omega)
    · refine xV_bipush (v := (-4)) e_X3_write_31 (by decide) ?_
      exact xV_ireturn e_X3_write_33 rfl rfl ⟨rfl, rfl, rfl, rfl⟩
  · exact absurd (uW_y h1n hn8) (bl_f h14)
theorem uW_n {n : Int32} (hb : n < nI 1 ∨ ¬ n ≤ nI 8) : (decide (nI 1 ≤ n) && decide (n ≤ nI 8)) = false := by
  rcases hb with z | z
  · rw [decide_eq_false (Int32.not_le.mpr z)]; rfl
  · rw [decide_eq_false z, Bool.and_false]
set_option maxHeartbeats 4000000 in
set_option maxRecDepth 100000 in
theorem K_writeBad {m : Nat} (hX : XM G T R m) (h0 : I m 0 = nI 0) {n : Int32} {v : Int64} (hb : n < nI 1 ∨ ¬ n ≤ nI 8) : xCon G Y_X3_write [.ref m, .int n, .long v] T R L I (xD (some (.int (-2))) T R L I) := by
  obtain ⟨m0, rt, st, rs, ss, rp, sp, rrp, srp, rrs, srs, rb, sb, rk, sk, ri, si, rc, sc, rv, sv, rr, sr⟩ := id hX
  refine xCon.mk (xl := [some (.ref m), some (.int n), some (.long v), none, none]) (by decide +kernel) (xle_r _) rfl (Nat.le_of_ble_eq_true rfl) rfl ?_
  refine xV_aload_n e_X3_write_0 rfl ?_
  refine xV_iconst (v := (nI 0)) e_X3_write_1 (by decide) ?_
  refine xV_putI e_X3_write_2 p_X3_48 (by assumption) ?_
  rw [xst_own h0]
  refine xV_iload_n e_X3_write_5 rfl ?_
  refine xV_i2l e_X3_write_6 ?_
  refine xV_lconst (v := 1) e_X3_write_7 (by decide) ?_
  refine xV_ldc2 e_X3_write_8 k_X3_60 ?_
  refine xV_cS3i e_X3_write_11 c_X3_54 (C_X3_in) (Nat.le_of_ble_eq_true rfl) ⟨(Nat.le_of_ble_eq_true rfl), (Nat.le_of_ble_eq_true rfl)⟩ (xle_r _) (xle_r _) ?_
  rw [bL_N (a := 1) (b := 8) (by decide) (by decide)]
  refine xV_if_neB e_X3_write_14 (fun h14 => ?_) (fun h14 => ?_)
  · exact absurd h14 (bl_f (uW_n hb))
  · refine xV_bipush (v := (-2)) e_X3_write_17 (by decide) ?_
    exact xV_ireturn e_X3_write_19 rfl rfl ⟨rfl, rfl, rfl, rfl⟩
end XML
