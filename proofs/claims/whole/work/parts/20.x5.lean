/-! PRAYERTAILINGS: oaths, down, silent, chance, month -/
section XPV
variable {G : xG} {T : xT} {R : xR} {L : xL} {I : xI}
section SV
variable {S : xS} {h mo : Nat}
theorem S_X0_isFallen (hm : MinS G T R h) {c : Int32} : xCon G Y_X0_isFallen [.ref h, .int c] T R L (pm I h S) (xD (some (.int (xb (hs (S.1 9) c)))) T R L (pm I h S)) := C_X0_isFallen (f := S.1) (w1 := S.2.1) (w2 := S.2.2.1) (w3 := S.2.2.2.1) (w4 := S.2.2.2.2.1) (w5 := S.2.2.2.2.2) hm
theorem S_X0_isLiving (hm : MinS G T R h) {m : Int32} : xCon G Y_X0_isLiving [.ref h, .int m] T R L (pm I h S) (xD (some (.int (xb (bLiv S.1 m)))) T R L (pm I h S)) := C_X0_isLiving (f := S.1) (w1 := S.2.1) (w2 := S.2.2.1) (w3 := S.2.2.2.1) (w4 := S.2.2.2.2.1) (w5 := S.2.2.2.2.2) hm
theorem S_X0_prayer (hm : MinS G T R h) (hk : MOK mo S) {v : Int32} (hv : bMonk S.1 v = true) : xCon G Y_X0_prayer [.ref h, .int v] T R L (pm I h S) (xD (some (.int (vPr mo S v.toNatClampNeg))) T R L (pm I h (gPr mo S v.toNatClampNeg))) := C_X0_prayerV (f := S.1) (w1 := S.2.1) (w2 := S.2.2.1) (w3 := S.2.2.2.1) (w4 := S.2.2.2.2.1) (w5 := S.2.2.2.2.2) hm hk hv
theorem S_X0_prayAll (hm : MinS G T R h) (hk : MOK mo S) {set : Int32} : xCon G Y_X0_prayAll [.ref h, .int set] T R L (pm I h S) (xD none T R L (pm I h (gPa mo set S 4))) := C_X0_prayAll (f := S.1) (w1 := S.2.1) (w2 := S.2.2.1) (w3 := S.2.2.2.1) (w4 := S.2.2.2.2.1) (w5 := S.2.2.2.2.2) hm hk.1 hk.2.1 hk.2.2
theorem S_X0_endDay (hm : MinS G T R h) (hk : MOK mo S) : xCon G Y_X0_endDay [.ref h] T R L (pm I h S) (xD (some (.int (vEdv mo S))) T R L (pm I h (gEd mo S))) := C_X0_endDay (f := S.1) (w1 := S.2.1) (w2 := S.2.2.1) (w3 := S.2.2.2.1) (w4 := S.2.2.2.2.1) (w5 := S.2.2.2.2.2) hm hk.1 hk.2.1
theorem S_X0_loosenBy (hm : MinS G T R h) (hk : MOK mo S) {mi : Nat} (hmi : mi < mo) : xCon G Y_X0_loosenBy [.ref h, .int (nI mi)] T R L (pm I h S) (xD none T R L (pm I h (gLb mo S mi))) := C_X0_loosenBy (f := S.1) (w1 := S.2.1) (w2 := S.2.2.1) (w3 := S.2.2.2.1) (w4 := S.2.2.2.2.1) (w5 := S.2.2.2.2.2) hm hk.1 hk.2.1 hk.2.2 hmi
theorem S_X0_propsWanting (hm : MinS G T R h) : xCon G Y_X0_propsWanting [.ref h] T R L (pm I h S) (xD (some (.int (vPw S.1 S.2.2.1 S.2.2.2.1 12))) T R L (pm I h S)) := C_X0_propsWanting (f := S.1) (w1 := S.2.1) (w2 := S.2.2.1) (w3 := S.2.2.2.1) (w4 := S.2.2.2.2.1) (w5 := S.2.2.2.2.2) hm
end SV
def gOa (mo : Nat) (S : xS) : Nat → xS
  | 0 => S
  | k + 1 => if hs (vLiv S.1) (nI k) = true then gLb mo (gOa mo S k) k else gOa mo S k
theorem gOa_t {mo k : Nat} {S : xS} (h : hs (vLiv S.1) (nI k) = true) : gOa mo S (k + 1) = gLb mo (gOa mo S k) k := by rw [gOa, if_pos h]
theorem gOa_f {mo k : Nat} {S : xS} (h : hs (vLiv S.1) (nI k) = false) : gOa mo S (k + 1) = gOa mo S k := by rw [gOa, if_neg (by rw [h]; decide)]
theorem keep_oa (mo : Nat) (S : xS) : ∀ k, keepS S (gOa mo S k) := by
  intro k
  induction k with
  | zero => exact keepS.rf S
  | succ k ih =>
    rw [gOa]
    split
    · exact ih.tr (keep_lb mo _ k)
    · exact ih
def qOaths (mo : Nat) (S : xS) : Int32 := if vLiv S.1 = 0 then nI 0 else vPw (gOa mo S 4).1 (gOa mo S 4).2.2.1 (gOa mo S 4).2.2.2.1 12
set_option maxHeartbeats 4000000 in
set_option maxRecDepth 100000 in
theorem P_X2_oaths_27 {x : Nat} (hX : XS G T R x) {mo : Nat} (hk : MOK mo (mS I (x + 9))) (hl : ¬ vLiv (I (x + 9)) = 0) : ∀ k, k ≤ 4 → xV G Y_X2_oaths T ((T, fun v R2 L2 I2 => ∃ r, v = some (.int r) ∧ (r = qOaths mo (mS I (x + 9)) ∧ R2 = R ∧ L2 = L ∧ Scr x I I2))) 27 [some (.ref x), some (.int (vLiv (I (x + 9)))), some (.int (nI k))] [] T R L (pm I (x + 15) (gOa mo (mS I (x + 9)) k)) := by
  obtain ⟨x0, xt, xts, xr, hrd, xn, hn, xtr, htr, xs, xss, xp, xps, xq, xqs, xqr, xqm, xc, xcs, xo, xos, hpool⟩ := id hX
  obtain ⟨n0, nr0, nr1, nr2, nr3, nr4, ns1, ns2, ns3, ns4, ns5⟩ := id hn
  have t0 := htr.1
  have d0 := hrd.1
  refine xloop (4) (fun k hk0 ih => ?_)
  refine xV_iload_n e_X2_oaths_27 rfl ?_
  refine xV_iconst (v := (nI 4)) e_X2_oaths_28 (by decide) ?_
  refine xV_icmp_geN e_X2_oaths_29 (by omega) (by omega) (fun h29 => ?_) (fun h29 => ?_)
  · obtain rfl : k = 4 := by omega
    refine xV_aload_n e_X2_oaths_54 rfl ?_
    refine xV_getR e_X2_oaths_55 f_X2_27 (by assumption) (by assumption) ?_
    refine xV_cV0i e_X2_oaths_58 c_X2_183 (by assumption) (S_X0_propsWanting htr) (Nat.le_of_ble_eq_true rfl) ⟨(Nat.le_of_ble_eq_true rfl), (Nat.le_of_ble_eq_true rfl)⟩ (xle_r _) (xle_r _) ?_
    exact xV_ireturn e_X2_oaths_61 rfl rfl ⟨_, rfl, by rw [qOaths, if_neg (show ¬ vLiv (mS I (x + 9)).1 = 0 from hl)], rfl, rfl, Scr.trial⟩
  · refine xV_iload_n e_X2_oaths_32 rfl ?_
    refine xV_iload_n e_X2_oaths_33 rfl ?_
    refine xV_cS2i e_X2_oaths_34 c_X2_152 (C_X2_has) (Nat.le_of_ble_eq_true rfl) ⟨(Nat.le_of_ble_eq_true rfl), (Nat.le_of_ble_eq_true rfl)⟩ (xle_r _) (xle_r _) ?_
    refine xV_if_eqB e_X2_oaths_37 (fun h37 => ?_) (fun h37 => ?_)
    · refine xV_iincN e_X2_oaths_48 rfl rfl ?_
      refine xV_goto e_X2_oaths_51 ?_
      have q := ih (by omega)
      rw [gOa_f (S := (mS I (x + 9))) h37] at q
      exact q
    · refine xV_aload_n e_X2_oaths_40 rfl ?_
      refine xV_getR e_X2_oaths_41 f_X2_27 (by assumption) (by assumption) ?_
      refine xV_iload_n e_X2_oaths_44 rfl ?_
      have hk2 := hk.keep (keep_oa mo (mS I (x + 9)) k)
      have hlt : k < mo := by
        have z := h37
        rw [hs_liv (f := I (x + 9)) hk.1 hk.2.1 (by omega)] at z
        simp only [Bool.and_eq_true, decide_eq_true_eq] at z
        exact z.1
      refine xV_cV1v e_X2_oaths_45 c_X2_179 (by assumption) (S_X0_loosenBy htr hk2 hlt) (Nat.le_of_ble_eq_true rfl) ⟨(Nat.le_of_ble_eq_true rfl), (Nat.le_of_ble_eq_true rfl)⟩ (xle_r _) (xle_r _) ?_
      refine xV_iincN e_X2_oaths_48 rfl rfl ?_
      refine xV_goto e_X2_oaths_51 ?_
      have q := ih (by omega)
      rw [gOa_t (S := (mS I (x + 9))) h37] at q
      exact q
set_option maxHeartbeats 4000000 in
set_option maxRecDepth 100000 in
theorem C_X2_oaths {x : Nat} (hX : XS G T R x) {mo : Nat} (hk : MOK mo (mS I (x + 9))) : xCon G Y_X2_oaths [.ref x] T R L I ((T, fun v R2 L2 I2 => ∃ r, v = some (.int r) ∧ (r = qOaths mo (mS I (x + 9)) ∧ R2 = R ∧ L2 = L ∧ Scr x I I2))) := by
  obtain ⟨x0, xt, xts, xr, hrd, xn, hn, xtr, htr, xs, xss, xp, xps, xq, xqs, xqr, xqm, xc, xcs, xo, xos, hpool⟩ := id hX
  obtain ⟨n0, nr0, nr1, nr2, nr3, nr4, ns1, ns2, ns3, ns4, ns5⟩ := id hn
  have t0 := htr.1
  have d0 := hrd.1
  refine xCon.mk (xl := [some (.ref x), none, none]) (by decide +kernel) (xle_r _) rfl (Nat.le_of_ble_eq_true rfl) rfl ?_
  refine xV_aload_n e_X2_oaths_0 rfl ?_
  refine xV_getR e_X2_oaths_1 f_X2_23 (by assumption) (by assumption) ?_
  refine xV_cV0i e_X2_oaths_4 c_X2_159 (by assumption) (G_X0_living (by assumption)) (Nat.le_of_ble_eq_true rfl) ⟨(Nat.le_of_ble_eq_true rfl), (Nat.le_of_ble_eq_true rfl)⟩ (xle_r _) (xle_r _) ?_
  refine xV_istore_n e_X2_oaths_7 (Nat.le_of_ble_eq_true rfl) rfl ?_
  refine xV_iload_n e_X2_oaths_8 rfl ?_
  refine xV_if_ne e_X2_oaths_9 (fun h9 => ?_) (fun h9 => ?_)
  · refine xV_aload_n e_X2_oaths_14 rfl ?_
    refine xV_getR e_X2_oaths_15 f_X2_27 (by assumption) (by assumption) ?_
    refine xV_aload_n e_X2_oaths_18 rfl ?_
    refine xV_getR e_X2_oaths_19 f_X2_23 (by assumption) (by assumption) ?_
    refine xV_cV1v e_X2_oaths_22 c_X2_61 (by assumption) (C_X0_take htr hn (by omega)) (Nat.le_of_ble_eq_true rfl) ⟨(Nat.le_of_ble_eq_true rfl), (Nat.le_of_ble_eq_true rfl)⟩ (xle_r _) (xle_r _) ?_
    refine xV_iconst (v := (nI 0)) e_X2_oaths_25 (by decide) ?_
    refine xV_istore_n e_X2_oaths_26 (Nat.le_of_ble_eq_true rfl) rfl ?_
    exact P_X2_oaths_27 hX hk h9 0 (Nat.zero_le _)
  · refine xV_iconst (v := (nI 0)) e_X2_oaths_12 (by decide) ?_
    exact xV_ireturn e_X2_oaths_13 rfl rfl ⟨_, rfl, by rw [qOaths, if_pos (show vLiv (mS I (x + 9)).1 = 0 from h9)], rfl, rfl, Scr.rf⟩
def gDy (mo : Nat) (S : xS) : xS := gEd mo (gPa mo (nI 15) S 4)
theorem keep_dy (mo : Nat) (S : xS) : keepS S (gDy mo S) := (keep_pa mo _ S 4).tr (keep_ed mo _)
def qDn (mo : Nat) (c : Int32) : Nat → Nat → xS → Int32
  | 0, _, _ => -9
  | n + 1, i, S => if hs (S.1 9) c = true then nI i else qDn mo c n (i + 1) (gDy mo S)
theorem qDn_t {mo k : Nat} {c : Int32} {S : xS} (hk : k < 31) (h : hs (S.1 9) c = true) : qDn mo c (31 - k) k S = nI k := by
  obtain ⟨m, hm⟩ : ∃ m, 31 - k = m + 1 := ⟨30 - k, by omega⟩
  rw [hm, qDn, if_pos h]
theorem qDn_f {mo k : Nat} {c : Int32} {S : xS} (hk : k < 31) (h : hs (S.1 9) c = false) : qDn mo c (31 - k) k S = qDn mo c (31 - (k + 1)) (k + 1) (gDy mo S) := by
  obtain ⟨m, hm⟩ : ∃ m, 31 - k = m + 1 := ⟨30 - k, by omega⟩
  rw [hm, qDn, if_neg (by rw [h]; decide), show m = 31 - (k + 1) by omega]
def qDown (mo : Nat) (S : xS) (c : Int32) : Int32 := if bCell c = true then qDn mo c 31 0 S else (-1)
set_option maxHeartbeats 4000000 in
set_option maxRecDepth 100000 in
theorem P_X2_down_22 {x : Nat} (hX : XS G T R x) {mo : Nat} {c : Int32} : ∀ k, k ≤ 31 → ∀ (S : xS) (_ : MOK mo S), xV G Y_X2_down T ((T, fun v R2 L2 I2 => ∃ r, v = some (.int r) ∧ (r = qDn mo c (31 - k) k S ∧ R2 = R ∧ L2 = L ∧ Scr x I I2))) 22 [some (.ref x), some (.int c), some (.int (nI k))] [] T R L (pm I (x + 15) S) := by
  obtain ⟨x0, xt, xts, xr, hrd, xn, hn, xtr, htr, xs, xss, xp, xps, xq, xqs, xqr, xqm, xc, xcs, xo, xos, hpool⟩ := id hX
  obtain ⟨n0, nr0, nr1, nr2, nr3, nr4, ns1, ns2, ns3, ns4, ns5⟩ := id hn
  have t0 := htr.1
  have d0 := hrd.1
  refine xloop (31) (fun k hk0 ih => ?_)
  intro S hk
  refine xV_iload_n e_X2_down_22 rfl ?_
  refine xV_bipush (v := (nI 30)) e_X2_down_23 (by decide) ?_
  refine xV_icmp_gtN e_X2_down_25 (by omega) (by omega) (fun h25 => ?_) (fun h25 => ?_)
  · refine xV_bipush (v := (-9)) e_X2_down_64 (by decide) ?_
    exact xV_ireturn e_X2_down_66 rfl rfl ⟨_, rfl, by rw [show k = 31 by omega, Nat.sub_self]; rfl, rfl, rfl, Scr.trial⟩
  · refine xV_aload_n e_X2_down_28 rfl ?_
    refine xV_getR e_X2_down_29 f_X2_27 (by assumption) (by assumption) ?_
    refine xV_iload_n e_X2_down_32 rfl ?_
    refine xV_cV1i e_X2_down_33 c_X2_115 (by assumption) (S_X0_isFallen htr) (Nat.le_of_ble_eq_true rfl) ⟨(Nat.le_of_ble_eq_true rfl), (Nat.le_of_ble_eq_true rfl)⟩ (xle_r _) (xle_r _) ?_
    refine xV_if_eqB e_X2_down_36 (fun h36 => ?_) (fun h36 => ?_)
    · refine xV_aload_n e_X2_down_41 rfl ?_
      refine xV_getR e_X2_down_42 f_X2_27 (by assumption) (by assumption) ?_
      refine xV_bipush (v := (nI 15)) e_X2_down_45 (by decide) ?_
      refine xV_cV1v e_X2_down_47 c_X2_186 (by assumption) (S_X0_prayAll htr hk) (Nat.le_of_ble_eq_true rfl) ⟨(Nat.le_of_ble_eq_true rfl), (Nat.le_of_ble_eq_true rfl)⟩ (xle_r _) (xle_r _) ?_
      refine xV_aload_n e_X2_down_50 rfl ?_
      refine xV_getR e_X2_down_51 f_X2_27 (by assumption) (by assumption) ?_
      refine xV_cV0i e_X2_down_54 c_X2_162 (by assumption) (S_X0_endDay htr (hk.keep (keep_pa mo (nI 15) S 4))) (Nat.le_of_ble_eq_true rfl) ⟨(Nat.le_of_ble_eq_true rfl), (Nat.le_of_ble_eq_true rfl)⟩ (xle_r _) (xle_r _) ?_
      refine xV_pop e_X2_down_57 rfl ?_
      refine xV_iincN e_X2_down_58 rfl rfl ?_
      refine xV_goto e_X2_down_61 ?_
      rw [qDn_f (S := S) (by omega) h36]
      exact ih (by omega) _ (hk.keep (keep_dy mo S))
    · refine xV_iload_n e_X2_down_39 rfl ?_
      exact xV_ireturn e_X2_down_40 rfl rfl ⟨_, rfl, by rw [qDn_t (S := S) (by omega) h36], rfl, rfl, Scr.trial⟩
set_option maxHeartbeats 4000000 in
set_option maxRecDepth 100000 in
theorem C_X2_downOk {x : Nat} (hX : XS G T R x) {mo : Nat} (hk : MOK mo (mS I (x + 9))) {c : Int32} : xCon G Y_X2_down [.ref x, .int c] T R L I ((T, fun v R2 L2 I2 => ∃ r, v = some (.int r) ∧ (r = qDown mo (mS I (x + 9)) c ∧ R2 = R ∧ L2 = L ∧ Scr x I I2))) := by
  obtain ⟨x0, xt, xts, xr, hrd, xn, hn, xtr, htr, xs, xss, xp, xps, xq, xqs, xqr, xqm, xc, xcs, xo, xos, hpool⟩ := id hX
  obtain ⟨n0, nr0, nr1, nr2, nr3, nr4, ns1, ns2, ns3, ns4, ns5⟩ := id hn
  have t0 := htr.1
  have d0 := hrd.1
  refine xCon.mk (xl := [some (.ref x), some (.int c), none]) (by decide +kernel) (xle_r _) rfl (Nat.le_of_ble_eq_true rfl) rfl ?_
  refine xV_iload_n e_X2_down_0 rfl ?_
  refine xV_cS1i e_X2_down_1 c_X2_95 (C_X2_isCell) (Nat.le_of_ble_eq_true rfl) ⟨(Nat.le_of_ble_eq_true rfl), (Nat.le_of_ble_eq_true rfl)⟩ (xle_r _) (xle_r _) ?_
  refine xV_if_neB e_X2_down_4 (fun h4 => ?_) (fun h4 => ?_)
  · refine xV_aload_n e_X2_down_9 rfl ?_
    refine xV_getR e_X2_down_10 f_X2_27 (by assumption) (by assumption) ?_
    refine xV_aload_n e_X2_down_13 rfl ?_
    refine xV_getR e_X2_down_14 f_X2_23 (by assumption) (by assumption) ?_
    refine xV_cV1v e_X2_down_17 c_X2_61 (by assumption) (C_X0_take htr hn (by omega)) (Nat.le_of_ble_eq_true rfl) ⟨(Nat.le_of_ble_eq_true rfl), (Nat.le_of_ble_eq_true rfl)⟩ (xle_r _) (xle_r _) ?_
    refine xV_iconst (v := (nI 0)) e_X2_down_20 (by decide) ?_
    refine xV_istore_n e_X2_down_21 (Nat.le_of_ble_eq_true rfl) rfl ?_
    rw [show qDown mo (mS I (x + 9)) c = qDn mo c (31 - 0) 0 (mS I (x + 9)) from if_pos h4]
    exact P_X2_down_22 hX 0 (Nat.zero_le _) _ hk
  · refine xV_iconst (v := (-1)) e_X2_down_7 (by decide) ?_
    exact xV_ireturn e_X2_down_8 rfl rfl ⟨_, rfl, by rw [qDown, if_neg (by rw [h4]; decide)], rfl, rfl, Scr.rf⟩
def sVal (S : xS) (c : Int32) : Int32 := if hs (S.1 9) c = true then nI 100 else xat 12 S.2.2.1 c
def sOk (S : xS) (sc sl : Nat → Int32) : Nat → Nat → Bool
  | 0, _ => true
  | n + 1, i => if sVal S (sc i) = sl i then sOk S sc sl n (i + 1) else false
theorem sOk_t {S : xS} {sc sl : Nat → Int32} {n k : Nat} (hk : k < n) (h : sVal S (sc k) = sl k) : sOk S sc sl (n - k) k = sOk S sc sl (n - (k + 1)) (k + 1) := by
  obtain ⟨m, hm⟩ : ∃ m, n - k = m + 1 := ⟨n - k - 1, by omega⟩
  rw [hm, sOk, if_pos h, show m = n - (k + 1) by omega]
theorem sOk_f {S : xS} {sc sl : Nat → Int32} {n k : Nat} (hk : k < n) (h : ¬ sVal S (sc k) = sl k) : sOk S sc sl (n - k) k = false := by
  obtain ⟨m, hm⟩ : ∃ m, n - k = m + 1 := ⟨n - k - 1, by omega⟩
  rw [hm, sOk, if_neg h]
def bSil (mo : Nat) (S : xS) (sc sl : Nat → Int32) (seen : Nat) (set : Int32) : Bool := sOk (gPa mo set S 4) sc sl seen 0
def sF (mo : Nat) (S : xS) (sc sl : Nat → Int32) (seen : Nat) : Nat → Int32 × Int32
  | 0 => (nI 0, vLiv S.1)
  | k + 1 => if nI k &&& (vLiv S.1 ^^^ (-1)) = 0 ∧ bSil mo S sc sl seen (nI k) = true then ((sF mo S sc sl seen k).1 + nI 1, (sF mo S sc sl seen k).2 &&& nI k) else sF mo S sc sl seen k
theorem sF_t {mo seen k : Nat} {S : xS} {sc sl : Nat → Int32} (h : nI k &&& (vLiv S.1 ^^^ (-1)) = 0) (h2 : bSil mo S sc sl seen (nI k) = true) : sF mo S sc sl seen (k + 1) = ((sF mo S sc sl seen k).1 + nI 1, (sF mo S sc sl seen k).2 &&& nI k) := by rw [sF, if_pos ⟨h, h2⟩]
theorem sF_f {mo seen k : Nat} {S : xS} {sc sl : Nat → Int32} (h : ¬ nI k &&& (vLiv S.1 ^^^ (-1)) = 0 ∨ bSil mo S sc sl seen (nI k) = false) : sF mo S sc sl seen (k + 1) = sF mo S sc sl seen k := by
  rw [sF, if_neg]
  rintro ⟨z1, z2⟩
  rcases h with h | h
  · exact h z1
  · rw [h] at z2; cases z2
def qSilent (mo : Nat) (S : xS) (sc sl : Nat → Int32) (seen : Nat) (what : Int32) : Int32 :=
  if what = 0 then (sF mo S sc sl seen 16).1 else if what = nI 1 then (if (sF mo S sc sl seen 16).1 = 0 then (-9) else (sF mo S sc sl seen 16).2) else (-2)
set_option maxHeartbeats 4000000 in
set_option maxRecDepth 100000 in
theorem P_X2_isSeenBy_21 {x : Nat} (hX : XS G T R x) {seen : Nat} {J : xI} {set : Int32} {S : xS} (hsn : J x 12 = nI seen) (hs6 : seen ≤ 6) : ∀ k, k ≤ seen → xV G Y_X2_isSeenBy T ((T, fun v R2 L2 I2 => ∃ r, v = some (.int r) ∧ (r = xb (sOk S (J (x + 24)) (J (x + 25)) (seen - k) k) ∧ R2 = R ∧ L2 = L ∧ Scr x J I2))) 21 [some (.ref x), some (.int set), some (.int (nI k)), none, none] [] T R L (pm J (x + 15) S) := by
  obtain ⟨x0, xt, xts, xr, hrd, xn, hn, xtr, htr, xs, xss, xp, xps, xq, xqs, xqr, xqm, xc, xcs, xo, xos, hpool⟩ := id hX
  obtain ⟨n0, nr0, nr1, nr2, nr3, nr4, ns1, ns2, ns3, ns4, ns5⟩ := id hn
  have t0 := htr.1
  have d0 := hrd.1
  obtain ⟨tt0, tr0, tr1, tr2, tr3, tr4, ts1, ts2, ts3, ts4, ts5⟩ := id htr
  refine xloop seen (fun k hk0 ih => ?_)
  refine xV_iload_n e_X2_isSeenBy_21 rfl ?_
  refine xV_aload_n e_X2_isSeenBy_22 rfl ?_
  refine xV_getI e_X2_isSeenBy_23 f_X2_92 (by assumption) ?_
  rw [pm_o (by omega), hsn]
  refine xV_icmp_geN e_X2_isSeenBy_26 (by omega) (by omega) (fun h26 => ?_) (fun h26 => ?_)
  · obtain rfl : k = seen := by omega
    rw [Nat.sub_self]
    refine xV_iconst (v := (nI 1)) e_X2_isSeenBy_88 (by decide) ?_
    exact xV_zreturn e_X2_isSeenBy_89 rfl rfl rfl ⟨_, rfl, rfl, rfl, rfl, Scr.trial⟩
  · refine xV_aload_n e_X2_isSeenBy_29 rfl ?_
    refine xV_getR e_X2_isSeenBy_30 f_X2_40 (by assumption) (by assumption) ?_
    refine xV_iload_n e_X2_isSeenBy_33 rfl ?_
    refine xV_cS2i e_X2_isSeenBy_34 c_X2_102 (C_X2_atN (Or.inl ⟨xcs, (pm_o (by omega)).symm⟩ : xRow G T _ (x + 24) 6 (J (x + 24))) (by omega) (by omega)) (Nat.le_of_ble_eq_true rfl) ⟨(Nat.le_of_ble_eq_true rfl), (Nat.le_of_ble_eq_true rfl)⟩ (xle_r _) (xle_r _) ?_
    refine xV_istore_n e_X2_isSeenBy_37 (Nat.le_of_ble_eq_true rfl) rfl ?_
    refine xV_aload_n e_X2_isSeenBy_38 rfl ?_
    refine xV_getR e_X2_isSeenBy_39 f_X2_27 (by assumption) (by assumption) ?_
    refine xV_iload_n e_X2_isSeenBy_42 rfl ?_
    refine xV_cV1i e_X2_isSeenBy_43 c_X2_115 (by assumption) (S_X0_isFallen htr) (Nat.le_of_ble_eq_true rfl) ⟨(Nat.le_of_ble_eq_true rfl), (Nat.le_of_ble_eq_true rfl)⟩ (xle_r _) (xle_r _) ?_
    refine xV_if_eqB e_X2_isSeenBy_46 (fun h46 => ?_) (fun h46 => ?_)
    · refine xV_aload_n e_X2_isSeenBy_54 rfl ?_
      refine xV_getR e_X2_isSeenBy_55 f_X2_27 (by assumption) (by assumption) ?_
      refine xV_getR e_X2_isSeenBy_58 f_X2_106 (by assumption) (by assumption) ?_
      refine xV_iload_n e_X2_isSeenBy_61 rfl ?_
      refine xV_cS2i e_X2_isSeenBy_62 c_X2_102 (C_X2_at (Or.inl ⟨ts2, (pm_2 (S := S)).symm⟩ : xRow G T _ (x + 15 + 2) 12 S.2.2.1) (by omega)) (Nat.le_of_ble_eq_true rfl) ⟨(Nat.le_of_ble_eq_true rfl), (Nat.le_of_ble_eq_true rfl)⟩ (xle_r _) (xle_r _) ?_
      refine xV_istore e_X2_isSeenBy_65 (Nat.le_of_ble_eq_true rfl) rfl ?_
      refine xV_iload e_X2_isSeenBy_67 rfl ?_
      refine xV_aload_n e_X2_isSeenBy_69 rfl ?_
      refine xV_getR e_X2_isSeenBy_70 f_X2_43 (by assumption) (by assumption) ?_
      refine xV_iload_n e_X2_isSeenBy_73 rfl ?_
      refine xV_cS2i e_X2_isSeenBy_74 c_X2_102 (C_X2_atN (Or.inl ⟨xos, (pm_o (by omega)).symm⟩ : xRow G T _ (x + 25) 6 (J (x + 25))) (by omega) (by omega)) (Nat.le_of_ble_eq_true rfl) ⟨(Nat.le_of_ble_eq_true rfl), (Nat.le_of_ble_eq_true rfl)⟩ (xle_r _) (xle_r _) ?_
      have hv : sVal S (J (x + 24) k) = xat 12 S.2.2.1 (J (x + 24) k) := by rw [sVal, if_neg (by rw [h46]; decide)]
      refine xV_icmp_eq e_X2_isSeenBy_77 (fun h77 => ?_) (fun h77 => ?_)
      · have hval : sVal S (J (x + 24) k) = J (x + 25) k := hv.trans h77
        refine xV_iincN e_X2_isSeenBy_82 rfl rfl ?_
        refine xV_goto e_X2_isSeenBy_85 ?_
        rw [sOk_t (S := S) (by omega) hval]
        refine xV_sub (xl' := [some (.ref x), some (.int set), some (.int (nI (k + 1))), none, none]) ⟨rfl, rfl, rfl, trivial⟩ ?_
        exact ih (by omega)
      · have hval : ¬ sVal S (J (x + 24) k) = J (x + 25) k := fun z => h77 (hv.symm.trans z)
        rw [sOk_f (S := S) (by omega) hval]
        refine xV_iconst (v := (nI 0)) e_X2_isSeenBy_80 (by decide) ?_
        exact xV_zreturn e_X2_isSeenBy_81 rfl rfl rfl ⟨_, rfl, rfl, rfl, rfl, Scr.trial⟩
    · refine xV_bipush (v := (nI 100)) e_X2_isSeenBy_49 (by decide) ?_
      refine xV_goto e_X2_isSeenBy_51 ?_
      refine xV_istore e_X2_isSeenBy_65 (Nat.le_of_ble_eq_true rfl) rfl ?_
      refine xV_iload e_X2_isSeenBy_67 rfl ?_
      refine xV_aload_n e_X2_isSeenBy_69 rfl ?_
      refine xV_getR e_X2_isSeenBy_70 f_X2_43 (by assumption) (by assumption) ?_
      refine xV_iload_n e_X2_isSeenBy_73 rfl ?_
      refine xV_cS2i e_X2_isSeenBy_74 c_X2_102 (C_X2_atN (Or.inl ⟨xos, (pm_o (by omega)).symm⟩ : xRow G T _ (x + 25) 6 (J (x + 25))) (by omega) (by omega)) (Nat.le_of_ble_eq_true rfl) ⟨(Nat.le_of_ble_eq_true rfl), (Nat.le_of_ble_eq_true rfl)⟩ (xle_r _) (xle_r _) ?_
      have hv : sVal S (J (x + 24) k) = nI 100 := by rw [sVal, if_pos h46]
      refine xV_icmp_eq e_X2_isSeenBy_77 (fun h77 => ?_) (fun h77 => ?_)
      · have hval : sVal S (J (x + 24) k) = J (x + 25) k := hv.trans h77
        refine xV_iincN e_X2_isSeenBy_82 rfl rfl ?_
        refine xV_goto e_X2_isSeenBy_85 ?_
        rw [sOk_t (S := S) (by omega) hval]
        refine xV_sub (xl' := [some (.ref x), some (.int set), some (.int (nI (k + 1))), none, none]) ⟨rfl, rfl, rfl, trivial⟩ ?_
        exact ih (by omega)
      · have hval : ¬ sVal S (J (x + 24) k) = J (x + 25) k := fun z => h77 (hv.symm.trans z)
        rw [sOk_f (S := S) (by omega) hval]
        refine xV_iconst (v := (nI 0)) e_X2_isSeenBy_80 (by decide) ?_
        exact xV_zreturn e_X2_isSeenBy_81 rfl rfl rfl ⟨_, rfl, rfl, rfl, rfl, Scr.trial⟩
set_option maxHeartbeats 4000000 in
set_option maxRecDepth 100000 in
theorem C_X2_isSeenBy {x : Nat} (hX : XS G T R x) {mo seen : Nat} {J : xI} {set : Int32} (hk : MOK mo (mS J (x + 9))) (hsn : J x 12 = nI seen) (hs6 : seen ≤ 6) : xCon G Y_X2_isSeenBy [.ref x, .int set] T R L J ((T, fun v R2 L2 I2 => ∃ r, v = some (.int r) ∧ (r = xb (bSil mo (mS J (x + 9)) (J (x + 24)) (J (x + 25)) seen set) ∧ R2 = R ∧ L2 = L ∧ Scr x J I2))) := by
  obtain ⟨x0, xt, xts, xr, hrd, xn, hn, xtr, htr, xs, xss, xp, xps, xq, xqs, xqr, xqm, xc, xcs, xo, xos, hpool⟩ := id hX
  obtain ⟨n0, nr0, nr1, nr2, nr3, nr4, ns1, ns2, ns3, ns4, ns5⟩ := id hn
  have t0 := htr.1
  have d0 := hrd.1
  refine xCon.mk (xl := [some (.ref x), some (.int set), none, none, none]) (by decide +kernel) (xle_r _) rfl (Nat.le_of_ble_eq_true rfl) rfl ?_
  refine xV_aload_n e_X2_isSeenBy_0 rfl ?_
  refine xV_getR e_X2_isSeenBy_1 f_X2_27 (by assumption) (by assumption) ?_
  refine xV_aload_n e_X2_isSeenBy_4 rfl ?_
  refine xV_getR e_X2_isSeenBy_5 f_X2_23 (by assumption) (by assumption) ?_
  refine xV_cV1v e_X2_isSeenBy_8 c_X2_61 (by assumption) (C_X0_take htr hn (by omega)) (Nat.le_of_ble_eq_true rfl) ⟨(Nat.le_of_ble_eq_true rfl), (Nat.le_of_ble_eq_true rfl)⟩ (xle_r _) (xle_r _) ?_
  refine xV_aload_n e_X2_isSeenBy_11 rfl ?_
  refine xV_getR e_X2_isSeenBy_12 f_X2_27 (by assumption) (by assumption) ?_
  refine xV_iload_n e_X2_isSeenBy_15 rfl ?_
  refine xV_cV1v e_X2_isSeenBy_16 c_X2_186 (by assumption) (S_X0_prayAll htr hk) (Nat.le_of_ble_eq_true rfl) ⟨(Nat.le_of_ble_eq_true rfl), (Nat.le_of_ble_eq_true rfl)⟩ (xle_r _) (xle_r _) ?_
  refine xV_iconst (v := (nI 0)) e_X2_isSeenBy_19 (by decide) ?_
  refine xV_istore_n e_X2_isSeenBy_20 (Nat.le_of_ble_eq_true rfl) rfl ?_
  exact P_X2_isSeenBy_21 (L := L) (S := gPa mo set (mS J (x + 9)) 4) hX hsn hs6 0 (Nat.zero_le _)
set_option maxHeartbeats 4000000 in
set_option maxRecDepth 100000 in
theorem P_X2_silent_28 {x : Nat} (hX : XS G T R x) {mo : Nat} (hk : MOK mo (mS I (x + 9))) {seen : Nat} (hsn : I x 12 = nI seen) (hs6 : seen ≤ 6) {what : Int32} (hwh : what = 0 ∨ what = nI 1) : ∀ k, k ≤ 16 → ∀ J, Scr x I J → xV G Y_X2_silent T ((T, fun v R2 L2 I2 => ∃ r, v = some (.int r) ∧ (r = qSilent mo (mS I (x + 9)) (I (x + 24)) (I (x + 25)) seen what ∧ R2 = R ∧ L2 = L ∧ Scr x I I2))) 28 [some (.ref x), some (.int what), some (.int (vLiv (I (x + 9)))), some (.int (sF mo (mS I (x + 9)) (I (x + 24)) (I (x + 25)) seen k).1), some (.int (sF mo (mS I (x + 9)) (I (x + 24)) (I (x + 25)) seen k).2), some (.int (nI k))] [] T R L J := by
  obtain ⟨x0, xt, xts, xr, hrd, xn, hn, xtr, htr, xs, xss, xp, xps, xq, xqs, xqr, xqm, xc, xcs, xo, xos, hpool⟩ := id hX
  obtain ⟨n0, nr0, nr1, nr2, nr3, nr4, ns1, ns2, ns3, ns4, ns5⟩ := id hn
  have t0 := htr.1
  have d0 := hrd.1
  refine xloop 16 (fun k hk0 ih => ?_)
  intro J hJ
  refine xV_iload e_X2_silent_28 rfl ?_
  refine xV_bipush (v := (nI 16)) e_X2_silent_30 (by decide) ?_
  refine xV_icmp_geN e_X2_silent_32 (by omega) (by omega) (fun h32 => ?_) (fun h32 => ?_)
  · obtain rfl : k = 16 := by omega
    refine xV_iload_n e_X2_silent_69 rfl ?_
    refine xV_if_ne e_X2_silent_70 (fun h70 => ?_) (fun h70 => ?_)
    · refine xV_iload_n e_X2_silent_75 rfl ?_
      refine xV_if_ne e_X2_silent_76 (fun h76 => ?_) (fun h76 => ?_)
      · refine xV_iload e_X2_silent_84 rfl ?_
        exact xV_ireturn e_X2_silent_86 rfl rfl ⟨_, rfl, by rw [qSilent, if_neg h70, if_pos (hwh.resolve_left h70), if_neg h76], rfl, rfl, hJ⟩
      · refine xV_bipush (v := (-9)) e_X2_silent_79 (by decide) ?_
        refine xV_goto e_X2_silent_81 ?_
        exact xV_ireturn e_X2_silent_86 rfl rfl ⟨_, rfl, by rw [qSilent, if_neg h70, if_pos (hwh.resolve_left h70), if_pos h76], rfl, rfl, hJ⟩
    · refine xV_iload_n e_X2_silent_73 rfl ?_
      exact xV_ireturn e_X2_silent_74 rfl rfl ⟨_, rfl, by rw [qSilent, if_pos h70], rfl, rfl, hJ⟩
  · refine xV_iload e_X2_silent_35 rfl ?_
    refine xV_iload_n e_X2_silent_37 rfl ?_
    refine xV_iconst (v := (-1)) e_X2_silent_38 (by decide) ?_
    refine xV_ixor e_X2_silent_39 ?_
    refine xV_iand e_X2_silent_40 ?_
    refine xV_if_ne e_X2_silent_41 (fun h41 => ?_) (fun h41 => ?_)
    · refine xV_iincN e_X2_silent_63 rfl rfl ?_
      refine xV_goto e_X2_silent_66 ?_
      have q := ih (by omega)
      rw [sF_f (S := (mS I (x + 9))) (Or.inl h41)] at q
      exact q _ hJ
    · refine xV_aload_n e_X2_silent_44 rfl ?_
      refine xV_iload e_X2_silent_45 rfl ?_
      refine xV_cV1iP e_X2_silent_47 c_X2_189 (by assumption) (C_X2_isSeenBy (J := J) (seen := seen) (mo := mo) hX (by rw [hJ.now]; exact hk) (by rw [hJ x (by unfold scr; omega)]; exact hsn) hs6) (Nat.le_of_ble_eq_true rfl) ⟨(Nat.le_of_ble_eq_true rfl), (Nat.le_of_ble_eq_true rfl)⟩ (xle_r _) (xle_r _) (fun r2 R2 L2 J2 hq => ?_)
      obtain ⟨rfl, rfl, rfl, hJ1⟩ := hq
      have hJ2 := hJ.tr hJ1
      rw [hJ.now, hJ (x + 24) (by unfold scr; omega), hJ (x + 25) (by unfold scr; omega)]
      refine xV_if_eqB e_X2_silent_50 (fun h50 => ?_) (fun h50 => ?_)
      · refine xV_iincN e_X2_silent_63 rfl rfl ?_
        refine xV_goto e_X2_silent_66 ?_
        have q := ih (by omega)
        rw [sF_f (S := (mS I (x + 9))) (Or.inr h50)] at q
        exact q _ hJ2
      · refine xV_iinc e_X2_silent_53 rfl rfl rfl ?_
        refine xV_iload e_X2_silent_56 rfl ?_
        refine xV_iload e_X2_silent_58 rfl ?_
        refine xV_iand e_X2_silent_60 ?_
        refine xV_istore e_X2_silent_61 (Nat.le_of_ble_eq_true rfl) rfl ?_
        refine xV_iincN e_X2_silent_63 rfl rfl ?_
        refine xV_goto e_X2_silent_66 ?_
        have q := ih (by omega)
        rw [sF_t (S := (mS I (x + 9))) h41 h50] at q
        exact q _ hJ2
set_option maxHeartbeats 4000000 in
set_option maxRecDepth 100000 in
theorem C_X2_silent {x : Nat} (hX : XS G T R x) {mo : Nat} (hk : MOK mo (mS I (x + 9))) {seen : Nat} (hsn : I x 12 = nI seen) (hs6 : seen ≤ 6) {what : Int32} : xCon G Y_X2_silent [.ref x, .int what] T R L I ((T, fun v R2 L2 I2 => ∃ r, v = some (.int r) ∧ (r = qSilent mo (mS I (x + 9)) (I (x + 24)) (I (x + 25)) seen what ∧ R2 = R ∧ L2 = L ∧ Scr x I I2))) := by
  obtain ⟨x0, xt, xts, xr, hrd, xn, hn, xtr, htr, xs, xss, xp, xps, xq, xqs, xqr, xqm, xc, xcs, xo, xos, hpool⟩ := id hX
  obtain ⟨n0, nr0, nr1, nr2, nr3, nr4, ns1, ns2, ns3, ns4, ns5⟩ := id hn
  have t0 := htr.1
  have d0 := hrd.1
  refine xCon.mk (xl := [some (.ref x), some (.int what), none, none, none, none]) (by decide +kernel) (xle_r _) rfl (Nat.le_of_ble_eq_true rfl) rfl ?_
  refine xV_iload_n e_X2_silent_0 rfl ?_
  refine xV_if_eq e_X2_silent_1 (fun h1 => ?_) (fun h1 => ?_)
  · refine xV_aload_n e_X2_silent_12 rfl ?_
    refine xV_getR e_X2_silent_13 f_X2_23 (by assumption) (by assumption) ?_
    refine xV_cV0i e_X2_silent_16 c_X2_159 (by assumption) (G_X0_living (by assumption)) (Nat.le_of_ble_eq_true rfl) ⟨(Nat.le_of_ble_eq_true rfl), (Nat.le_of_ble_eq_true rfl)⟩ (xle_r _) (xle_r _) ?_
    refine xV_istore_n e_X2_silent_19 (Nat.le_of_ble_eq_true rfl) rfl ?_
    refine xV_iconst (v := (nI 0)) e_X2_silent_20 (by decide) ?_
    refine xV_istore_n e_X2_silent_21 (Nat.le_of_ble_eq_true rfl) rfl ?_
    refine xV_iload_n e_X2_silent_22 rfl ?_
    refine xV_istore e_X2_silent_23 (Nat.le_of_ble_eq_true rfl) rfl ?_
    refine xV_iconst (v := (nI 0)) e_X2_silent_25 (by decide) ?_
    refine xV_istore e_X2_silent_26 (Nat.le_of_ble_eq_true rfl) rfl ?_
    exact P_X2_silent_28 hX hk hsn hs6 (Or.inl h1) 0 (Nat.zero_le _) I Scr.rf
  · refine xV_iload_n e_X2_silent_4 rfl ?_
    refine xV_iconst (v := (nI 1)) e_X2_silent_5 (by decide) ?_
    refine xV_icmp_eq e_X2_silent_6 (fun h6 => ?_) (fun h6 => ?_)
    · refine xV_aload_n e_X2_silent_12 rfl ?_
      refine xV_getR e_X2_silent_13 f_X2_23 (by assumption) (by assumption) ?_
      refine xV_cV0i e_X2_silent_16 c_X2_159 (by assumption) (G_X0_living (by assumption)) (Nat.le_of_ble_eq_true rfl) ⟨(Nat.le_of_ble_eq_true rfl), (Nat.le_of_ble_eq_true rfl)⟩ (xle_r _) (xle_r _) ?_
      refine xV_istore_n e_X2_silent_19 (Nat.le_of_ble_eq_true rfl) rfl ?_
      refine xV_iconst (v := (nI 0)) e_X2_silent_20 (by decide) ?_
      refine xV_istore_n e_X2_silent_21 (Nat.le_of_ble_eq_true rfl) rfl ?_
      refine xV_iload_n e_X2_silent_22 rfl ?_
      refine xV_istore e_X2_silent_23 (Nat.le_of_ble_eq_true rfl) rfl ?_
      refine xV_iconst (v := (nI 0)) e_X2_silent_25 (by decide) ?_
      refine xV_istore e_X2_silent_26 (Nat.le_of_ble_eq_true rfl) rfl ?_
      exact P_X2_silent_28 hX hk hsn hs6 (Or.inr h6) 0 (Nat.zero_le _) I Scr.rf
    · refine xV_bipush (v := (-2)) e_X2_silent_9 (by decide) ?_
      exact xV_ireturn e_X2_silent_11 rfl rfl ⟨_, rfl, by rw [qSilent, if_neg h1, if_neg h6], rfl, rfl, Scr.rf⟩
end XPV
