/-! PRAYERTAILINGS: the text read, psalms, the best -/
section XPT
variable {G : xG} {T : xT} {R : xR} {L : xL} {I : xI}
-- the text read
def rLoop (txt : Nat → Int32) : Nat → Nat → xRd → Int32 × xRd
  | 0, i, X => (if X.1 1 = nI 2 then (-9) else nI i, X)
  | n + 1, i, X => if (rAcc (txt i) X).1 = true then rLoop txt n (i + 1) (rAcc (txt i) X).2 else (nI i, (rAcc (txt i) X).2)
theorem rLoop_t {txt : Nat → Int32} {len k : Nat} {X : xRd} (hk : k < len) (h : (rAcc (txt k) X).1 = true) : rLoop txt (len - k) k X = rLoop txt (len - (k + 1)) (k + 1) (rAcc (txt k) X).2 := by
  obtain ⟨m, hm⟩ : ∃ m, len - k = m + 1 := ⟨len - k - 1, by omega⟩
  rw [hm, rLoop, if_pos h, show m = len - (k + 1) by omega]
theorem rLoop_f {txt : Nat → Int32} {len k : Nat} {X : xRd} (hk : k < len) (h : (rAcc (txt k) X).1 = false) : rLoop txt (len - k) k X = (nI k, (rAcc (txt k) X).2) := by
  obtain ⟨m, hm⟩ : ∃ m, len - k = m + 1 := ⟨len - k - 1, by omega⟩
  rw [hm, rLoop, if_neg (by rw [h]; decide)]
def rd (I : xI) (q : Nat) (X : xRd) : xI := pm (va_up I q X.1) (q + 1) X.2
theorem rd_o {I : xI} {q a : Nat} {u : Nat → Int32} {S : xS} (h : a < q ∨ q + 7 ≤ a) : pm (va_up I q u) (q + 1) S a = I a := by rw [pm_o (by omega), va_up_n (by omega)]
theorem rd_self {I : xI} {q : Nat} : pm (va_up I q (I q)) (q + 1) (mS I (q + 1)) = I := by rw [va_up_own, pm_self]
/-- the reader as a new reading begins -/
def rX0 (I : xI) (q : Nat) : xRd := (upd (upd (upd (I q) 1 (nI 0)) 2 (nI 0)) 3 (nI 0), (clrF (I (q + 1)), zr (I (q + 1 + 1)) 12, zr (I (q + 1 + 2)) 12, zr (I (q + 1 + 3)) 12, zr (I (q + 1 + 4)) 12, I (q + 1 + 5)))
theorem G_X1_start {q : Nat} (hq : RdS G T R q) : xCon G Y_X1_start [.ref q] T R L I (xD none T R L (rd I q (rX0 I q))) := by
  have h := C_X1_start (L := L) (I := I) (u := I q) (f := I (q + 1)) (w1 := I (q + 1 + 1)) (w2 := I (q + 1 + 2)) (w3 := I (q + 1 + 3)) (w4 := I (q + 1 + 4)) (w5 := I (q + 1 + 5)) hq
  rwa [show pm (va_up I q (I q)) (q + 1) (I (q + 1), I (q + 1 + 1), I (q + 1 + 2), I (q + 1 + 3), I (q + 1 + 4), I (q + 1 + 5)) = I from rd_self] at h
set_option maxHeartbeats 4000000 in
set_option maxRecDepth 100000 in
theorem P_X2_readText_9 {x : Nat} (hX : XS G T R x) {len : Nat} (hl : I x 1 = nI len) (h72 : len ≤ 72) : ∀ k, k ≤ len → ∀ (u f w1 w2 w3 w4 w5 : Nat → Int32), xV G Y_X2_readText T (xD (some (.int (rLoop (I (x + 1)) (len - k) k (u, (f, w1, w2, w3, w4, w5))).1)) T R L (rd I (x + 2) (rLoop (I (x + 1)) (len - k) k (u, (f, w1, w2, w3, w4, w5))).2)) 9 [some (.ref x), some (.int (nI k))] [] T R L (pm (va_up I (x + 2) u) (x + 2 + 1) (f, w1, w2, w3, w4, w5)) := by
  obtain ⟨x0, xt, xts, xr, hrd, xn, hn, xtr, htr, xs, xss, xp, xps, xq, xqs, xqr, xqm, xc, xcs, xo, xos, hpool⟩ := id hX
  obtain ⟨n0, nr0, nr1, nr2, nr3, nr4, ns1, ns2, ns3, ns4, ns5⟩ := id hn
  have t0 := htr.1
  have d0 := hrd.1
  refine xloop (len) (fun k hk0 ih => ?_)
  intro u f w1 w2 w3 w4 w5
  refine xV_iload_n e_X2_readText_9 rfl ?_
  refine xV_aload_n e_X2_readText_10 rfl ?_
  refine xV_getI e_X2_readText_11 f_X2_46 (by assumption) ?_
  rw [rd_o (by omega), hl]
  refine xV_icmp_geN e_X2_readText_14 (by omega) (by omega) (fun h14 => ?_) (fun h14 => ?_)
  · obtain rfl : k = len := by omega
    rw [Nat.sub_self]
    refine xV_aload_n e_X2_readText_43 rfl ?_
    refine xV_getR e_X2_readText_44 f_X2_16 (by assumption) (by assumption) ?_
    refine xV_cV0i e_X2_readText_47 c_X2_211 (by assumption) (C_X1_mayEnd hrd) (Nat.le_of_ble_eq_true rfl) ⟨(Nat.le_of_ble_eq_true rfl), (Nat.le_of_ble_eq_true rfl)⟩ (xle_r _) (xle_r _) ?_
    refine xV_if_eqB e_X2_readText_50 (fun h50 => ?_) (fun h50 => ?_)
    · refine xV_aload_n e_X2_readText_58 rfl ?_
      refine xV_getI e_X2_readText_59 f_X2_46 (by assumption) ?_
      rw [rd_o (by omega), hl]
      exact xV_ireturn e_X2_readText_62 rfl rfl ⟨by rw [rLoop, if_neg (of_decide_eq_false h50)], rfl, rfl, rfl⟩
    · refine xV_bipush (v := (-9)) e_X2_readText_53 (by decide) ?_
      refine xV_goto e_X2_readText_55 ?_
      exact xV_ireturn e_X2_readText_62 rfl rfl ⟨by rw [rLoop, if_pos (of_decide_eq_true h50)], rfl, rfl, rfl⟩
  · refine xV_aload_n e_X2_readText_17 rfl ?_
    refine xV_getR e_X2_readText_18 f_X2_16 (by assumption) (by assumption) ?_
    refine xV_aload_n e_X2_readText_21 rfl ?_
    refine xV_getR e_X2_readText_22 f_X2_9 (by assumption) (by assumption) ?_
    refine xV_iload_n e_X2_readText_25 rfl ?_
    refine xV_cS2i e_X2_readText_26 c_X2_102 (C_X2_atN (Or.inl ⟨xts, (rd_o (by omega)).symm⟩ : xRow G T _ (x + 1) 72 (I (x + 1))) (by omega) (by omega)) (Nat.le_of_ble_eq_true rfl) ⟨(Nat.le_of_ble_eq_true rfl), (Nat.le_of_ble_eq_true rfl)⟩ (xle_r _) (xle_r _) ?_
    refine xV_cV1i e_X2_readText_29 c_X2_208 (by assumption) (C_X1_accepts hrd) (Nat.le_of_ble_eq_true rfl) ⟨(Nat.le_of_ble_eq_true rfl), (Nat.le_of_ble_eq_true rfl)⟩ (xle_r _) (xle_r _) ?_
    refine xV_if_neB e_X2_readText_32 (fun h32 => ?_) (fun h32 => ?_)
    · refine xV_iincN e_X2_readText_37 rfl rfl ?_
      refine xV_goto e_X2_readText_40 ?_
      rw [rLoop_t (X := (u, (f, w1, w2, w3, w4, w5))) (by omega) h32]
      exact ih (by omega) _ _ _ _ _ _ _
    · refine xV_iload_n e_X2_readText_35 rfl ?_
      rw [rLoop_f (X := (u, (f, w1, w2, w3, w4, w5))) (by omega) h32]
      exact xV_ireturn e_X2_readText_36 rfl rfl ⟨rfl, rfl, rfl, rfl⟩
set_option maxHeartbeats 4000000 in
set_option maxRecDepth 100000 in
theorem C_X2_readText {x : Nat} (hX : XS G T R x) {len : Nat} (hl : I x 1 = nI len) (h72 : len ≤ 72) : xCon G Y_X2_readText [.ref x] T R L I (xD (some (.int (rLoop (I (x + 1)) len 0 (rX0 I (x + 2))).1)) T R L (rd I (x + 2) (rLoop (I (x + 1)) len 0 (rX0 I (x + 2))).2)) := by
  obtain ⟨x0, xt, xts, xr, hrd, xn, hn, xtr, htr, xs, xss, xp, xps, xq, xqs, xqr, xqm, xc, xcs, xo, xos, hpool⟩ := id hX
  obtain ⟨n0, nr0, nr1, nr2, nr3, nr4, ns1, ns2, ns3, ns4, ns5⟩ := id hn
  have t0 := htr.1
  have d0 := hrd.1
  refine xCon.mk (xl := [some (.ref x), none]) (by decide +kernel) (xle_r _) rfl (Nat.le_of_ble_eq_true rfl) rfl ?_
  refine xV_aload_n e_X2_readText_0 rfl ?_
  refine xV_getR e_X2_readText_1 f_X2_16 (by assumption) (by assumption) ?_
  refine xV_cV0v e_X2_readText_4 c_X2_205 (by assumption) (G_X1_start hrd) (Nat.le_of_ble_eq_true rfl) ⟨(Nat.le_of_ble_eq_true rfl), (Nat.le_of_ble_eq_true rfl)⟩ (xle_r _) (xle_r _) ?_
  refine xV_iconst (v := (nI 0)) e_X2_readText_7 (by decide) ?_
  refine xV_istore_n e_X2_readText_8 (Nat.le_of_ble_eq_true rfl) rfl ?_
  exact P_X2_readText_9 hX hl h72 0 (Nat.zero_le _) _ _ _ _ _ _ _
set_option maxHeartbeats 4000000 in
set_option maxRecDepth 100000 in
theorem C_X2_fault {x : Nat} (hX : XS G T R x) {len : Nat} (hl : I x 1 = nI len) (h72 : len ≤ 72) : xCon G Y_X2_fault [.ref x] T R L I ((T, fun v R2 L2 I2 => ∃ r, v = some (.int r) ∧ (r = (rLoop (I (x + 1)) len 0 (rX0 I (x + 2))).1 ∧ R2 = R ∧ L2 = L ∧ Scr x I I2))) := by
  obtain ⟨x0, xt, xts, xr, hrd, xn, hn, xtr, htr, xs, xss, xp, xps, xq, xqs, xqr, xqm, xc, xcs, xo, xos, hpool⟩ := id hX
  obtain ⟨n0, nr0, nr1, nr2, nr3, nr4, ns1, ns2, ns3, ns4, ns5⟩ := id hn
  have t0 := htr.1
  have d0 := hrd.1
  refine xCon.mk (xl := [some (.ref x)]) (by decide +kernel) (xle_r _) rfl (Nat.le_of_ble_eq_true rfl) rfl ?_
  refine xV_aload_n e_X2_fault_0 rfl ?_
  refine xV_cV0i e_X2_fault_1 c_X2_54 (by assumption) (C_X2_readText hX hl h72) (Nat.le_of_ble_eq_true rfl) ⟨(Nat.le_of_ble_eq_true rfl), (Nat.le_of_ble_eq_true rfl)⟩ (xle_r _) (xle_r _) ?_
  exact xV_ireturn e_X2_fault_4 rfl rfl ⟨_, rfl, rfl, rfl, rfl, Scr.read⟩
set_option maxHeartbeats 4000000 in
set_option maxRecDepth 100000 in
theorem C_X2_mine {x : Nat} (hX : XS G T R x) {len : Nat} (hl : I x 1 = nI len) (h72 : len ≤ 72) : xCon G Y_X2_mine [.ref x] T R L I ((T, fun v R2 L2 I2 => ∃ r, v = some (.int r) ∧ (R2 = R ∧ L2 = L ∧ ((¬ (rLoop (I (x + 1)) len 0 (rX0 I (x + 2))).1 = -9 ∧ r = -3 ∧ Scr x I I2) ∨ ((rLoop (I (x + 1)) len 0 (rX0 I (x + 2))).1 = -9 ∧ r = (rLoop (I (x + 1)) len 0 (rX0 I (x + 2))).2.2.1 6 ∧ ∃ J, Scr x I J ∧ I2 = xst (xst (pm J (x + 9) (rLoop (I (x + 1)) len 0 (rX0 I (x + 2))).2.2) x 7 (nI 0)) x 9 (nI 0)))))) := by
  obtain ⟨x0, xt, xts, xr, hrd, xn, hn, xtr, htr, xs, xss, xp, xps, xq, xqs, xqr, xqm, xc, xcs, xo, xos, hpool⟩ := id hX
  obtain ⟨n0, nr0, nr1, nr2, nr3, nr4, ns1, ns2, ns3, ns4, ns5⟩ := id hn
  have t0 := htr.1
  have d0 := hrd.1
  have dr := hrd.2.1
  refine xCon.mk (xl := [some (.ref x)]) (by decide +kernel) (xle_r _) rfl (Nat.le_of_ble_eq_true rfl) rfl ?_
  refine xV_aload_n e_X2_mine_0 rfl ?_
  refine xV_cV0i e_X2_mine_1 c_X2_54 (by assumption) (C_X2_readText hX hl h72) (Nat.le_of_ble_eq_true rfl) ⟨(Nat.le_of_ble_eq_true rfl), (Nat.le_of_ble_eq_true rfl)⟩ (xle_r _) (xle_r _) ?_
  refine xV_bipush (v := (-9)) e_X2_mine_4 (by decide) ?_
  refine xV_icmp_eq e_X2_mine_6 (fun h6 => ?_) (fun h6 => ?_)
  · refine xV_aload_n e_X2_mine_12 rfl ?_
    refine xV_getR e_X2_mine_13 f_X2_23 (by assumption) (by assumption) ?_
    refine xV_aload_n e_X2_mine_16 rfl ?_
    refine xV_getR e_X2_mine_17 f_X2_16 (by assumption) (by assumption) ?_
    refine xV_getR e_X2_mine_20 f_X2_58 (by assumption) (by assumption) ?_
    refine xV_cV1v e_X2_mine_23 c_X2_61 (by assumption) (C_X0_take hn (hrd.2.2) (by omega)) (Nat.le_of_ble_eq_true rfl) ⟨(Nat.le_of_ble_eq_true rfl), (Nat.le_of_ble_eq_true rfl)⟩ (xle_r _) (xle_r _) ?_
    rw [show mS (rd I (x + 2) (rLoop (I (x + 1)) len 0 (rX0 I (x + 2))).2) (x + 2 + 1) = (rLoop (I (x + 1)) len 0 (rX0 I (x + 2))).2.2 from mS_pm]
    refine xV_aload_n e_X2_mine_26 rfl ?_
    refine xV_iconst (v := (nI 0)) e_X2_mine_27 (by decide) ?_
    refine xV_putI e_X2_mine_28 p_X2_65 (by assumption) ?_
    refine xV_aload_n e_X2_mine_31 rfl ?_
    refine xV_iconst (v := (nI 0)) e_X2_mine_32 (by decide) ?_
    refine xV_putI e_X2_mine_33 p_X2_68 (by assumption) ?_
    refine xV_aload_n e_X2_mine_36 rfl ?_
    refine xV_getR e_X2_mine_37 f_X2_23 (by assumption) (by assumption) ?_
    refine xV_getI e_X2_mine_40 f_X2_71 (by assumption) ?_
    rw [show xst (xst (pm (rd I (x + 2) (rLoop (I (x + 1)) len 0 (rX0 I (x + 2))).2) (x + 9) (rLoop (I (x + 1)) len 0 (rX0 I (x + 2))).2.2) x 7 (nI 0)) x 9 (nI 0) (x + 9) 6 = (rLoop (I (x + 1)) len 0 (rX0 I (x + 2))).2.2.1 6 from by rw [xst_o (by omega), xst_o (by omega), pm_0]]
    exact xV_ireturn e_X2_mine_43 rfl rfl ⟨_, rfl, rfl, rfl, Or.inr ⟨h6, rfl, _, Scr.read, rfl⟩⟩
  · refine xV_bipush (v := (-3)) e_X2_mine_9 (by decide) ?_
    exact xV_ireturn e_X2_mine_11 rfl rfl ⟨_, rfl, rfl, rfl, Or.inl ⟨h6, rfl, Scr.read⟩⟩
-- psalms
def bk (mo : Nat) (b0 : Int32) (g : Nat → Int32) : Nat → Nat → xS → Int32 × xS
  | 0, _, S => (-9, S)
  | n + 1, i, S => if bLiv S.1 (g i) = true then (if (gPr mo S (g i).toNatClampNeg).1 8 = b0 then bk mo b0 g n (i + 1) (gPr mo S (g i).toNatClampNeg) else (nI i, gPr mo S (g i).toNatClampNeg)) else (nI i, S)
theorem bk_l {mo n k : Nat} {b0 : Int32} {g : Nat → Int32} {S : xS} (hk : k < n) (h : bLiv S.1 (g k) = false) : bk mo b0 g (n - k) k S = (nI k, S) := by
  obtain ⟨m, hm⟩ : ∃ m, n - k = m + 1 := ⟨n - k - 1, by omega⟩
  rw [hm, bk, if_neg (by rw [h]; decide)]
theorem bk_b {mo n k : Nat} {b0 : Int32} {g : Nat → Int32} {S : xS} (hk : k < n) (h : bLiv S.1 (g k) = true) (hb : ¬ (gPr mo S (g k).toNatClampNeg).1 8 = b0) : bk mo b0 g (n - k) k S = (nI k, gPr mo S (g k).toNatClampNeg) := by
  obtain ⟨m, hm⟩ : ∃ m, n - k = m + 1 := ⟨n - k - 1, by omega⟩
  rw [hm, bk, if_pos h, if_neg hb]
theorem bk_s {mo n k : Nat} {b0 : Int32} {g : Nat → Int32} {S : xS} (hk : k < n) (h : bLiv S.1 (g k) = true) (hb : (gPr mo S (g k).toNatClampNeg).1 8 = b0) : bk mo b0 g (n - k) k S = bk mo b0 g (n - (k + 1)) (k + 1) (gPr mo S (g k).toNatClampNeg) := by
  obtain ⟨m, hm⟩ : ∃ m, n - k = m + 1 := ⟨n - k - 1, by omega⟩
  rw [hm, bk, if_pos h, if_pos hb, show m = n - (k + 1) by omega]

set_option maxHeartbeats 4000000 in
set_option maxRecDepth 100000 in
theorem P_X2_breakOf_13 {x : Nat} (hX : XS G T R x) {mo n : Nat} (hn8 : n ≤ 8) : ∀ k, k ≤ n → ∀ (f w1 w2 w3 w4 w5 : Nat → Int32) (_ : MOK mo (f, w1, w2, w3, w4, w5)), xV G Y_X2_breakOf T (xD (some (.int (bk mo (I (x + 9) 8) (I (x + 21)) (n - k) k (f, w1, w2, w3, w4, w5)).1)) T R L (pm I (x + 15) (bk mo (I (x + 9) 8) (I (x + 21)) (n - k) k (f, w1, w2, w3, w4, w5)).2)) 13 [some (.ref x), some (.int (nI n)), some (.int (nI k)), none] [] T R L (pm I (x + 15) (f, w1, w2, w3, w4, w5)) := by
  obtain ⟨x0, xt, xts, xr, hrd, xn, hn, xtr, htr, xs, xss, xp, xps, xq, xqs, xqr, xqm, xc, xcs, xo, xos, hpool⟩ := id hX
  obtain ⟨n0, nr0, nr1, nr2, nr3, nr4, ns1, ns2, ns3, ns4, ns5⟩ := id hn
  have t0 := htr.1
  have d0 := hrd.1
  refine xloop n (fun k hk0 ih => ?_)
  intro f w1 w2 w3 w4 w5 hk
  refine xV_iload_n e_X2_breakOf_13 rfl ?_
  refine xV_iload_n e_X2_breakOf_14 rfl ?_
  refine xV_icmp_geN e_X2_breakOf_15 (by omega) (by omega) (fun h15 => ?_) (fun h15 => ?_)
  · obtain rfl : k = n := by omega
    rw [Nat.sub_self]
    refine xV_bipush (v := (-9)) e_X2_breakOf_74 (by decide) ?_
    exact xV_ireturn e_X2_breakOf_76 rfl rfl ⟨rfl, rfl, rfl, rfl⟩
  · refine xV_aload_n e_X2_breakOf_18 rfl ?_
    refine xV_getR e_X2_breakOf_19 f_X2_30 (by assumption) (by assumption) ?_
    refine xV_iload_n e_X2_breakOf_22 rfl ?_
    refine xV_cS2i e_X2_breakOf_23 c_X2_102 (C_X2_atN (Or.inl ⟨xss, (pm_o (by omega)).symm⟩ : xRow G T _ (x + 21) 8 (I (x + 21))) (by omega) (by omega)) (Nat.le_of_ble_eq_true rfl) ⟨(Nat.le_of_ble_eq_true rfl), (Nat.le_of_ble_eq_true rfl)⟩ (xle_r _) (xle_r _) ?_
    refine xV_istore_n e_X2_breakOf_26 (Nat.le_of_ble_eq_true rfl) rfl ?_
    refine xV_aload_n e_X2_breakOf_27 rfl ?_
    refine xV_getR e_X2_breakOf_28 f_X2_27 (by assumption) (by assumption) ?_
    refine xV_iload_n e_X2_breakOf_31 rfl ?_
    refine xV_cV1i e_X2_breakOf_32 c_X2_134 (by assumption) (C_X0_isLiving htr) (Nat.le_of_ble_eq_true rfl) ⟨(Nat.le_of_ble_eq_true rfl), (Nat.le_of_ble_eq_true rfl)⟩ (xle_r _) (xle_r _) ?_
    refine xV_if_neB e_X2_breakOf_35 (fun h35 => ?_) (fun h35 => ?_)
    · refine xV_aload_n e_X2_breakOf_40 rfl ?_
      refine xV_getR e_X2_breakOf_41 f_X2_27 (by assumption) (by assumption) ?_
      refine xV_iload_n e_X2_breakOf_44 rfl ?_
      refine xV_cV1i e_X2_breakOf_45 c_X2_140 (by assumption) (C_X0_prayerV htr hk (bLiv_M h35)) (Nat.le_of_ble_eq_true rfl) ⟨(Nat.le_of_ble_eq_true rfl), (Nat.le_of_ble_eq_true rfl)⟩ (xle_r _) (xle_r _) ?_
      refine xV_pop e_X2_breakOf_48 rfl ?_
      refine xV_aload_n e_X2_breakOf_49 rfl ?_
      refine xV_getR e_X2_breakOf_50 f_X2_27 (by assumption) (by assumption) ?_
      refine xV_getI e_X2_breakOf_53 f_X2_86 (by assumption) ?_
      rw [pm_0]
      refine xV_aload_n e_X2_breakOf_56 rfl ?_
      refine xV_getR e_X2_breakOf_57 f_X2_23 (by assumption) (by assumption) ?_
      refine xV_getI e_X2_breakOf_60 f_X2_86 (by assumption) ?_
      rw [pm_o (by omega)]
      refine xV_icmp_eq e_X2_breakOf_63 (fun h63 => ?_) (fun h63 => ?_)
      · refine xV_iincN e_X2_breakOf_68 rfl rfl ?_
        refine xV_goto e_X2_breakOf_71 ?_
        rw [bk_s (S := (f, w1, w2, w3, w4, w5)) (by omega) h35 h63]
        refine xV_sub (xl' := [some (.ref x), some (.int (nI n)), some (.int (nI (k + 1))), none]) ⟨rfl, rfl, rfl, trivial⟩ ?_
        exact ih (by omega) _ _ _ _ _ _ (hk.keep (keep_pr mo (f, w1, w2, w3, w4, w5) _))
      · refine xV_iload_n e_X2_breakOf_66 rfl ?_
        rw [bk_b (S := (f, w1, w2, w3, w4, w5)) (by omega) h35 h63]
        exact xV_ireturn e_X2_breakOf_67 rfl rfl ⟨rfl, rfl, rfl, rfl⟩
    · refine xV_iload_n e_X2_breakOf_38 rfl ?_
      rw [bk_l (S := (f, w1, w2, w3, w4, w5)) (by omega) h35]
      exact xV_ireturn e_X2_breakOf_39 rfl rfl ⟨rfl, rfl, rfl, rfl⟩
set_option maxHeartbeats 4000000 in
set_option maxRecDepth 100000 in
theorem C_X2_breakOf {x : Nat} (hX : XS G T R x) {mo n : Nat} (hn8 : n ≤ 8) (hk : MOK mo (mS I (x + 9))) : xCon G Y_X2_breakOf [.ref x, .int (nI n)] T R L I (xD (some (.int (bk mo (I (x + 9) 8) (I (x + 21)) n 0 (mS I (x + 9))).1)) T R L (pm I (x + 15) (bk mo (I (x + 9) 8) (I (x + 21)) n 0 (mS I (x + 9))).2)) := by
  obtain ⟨x0, xt, xts, xr, hrd, xn, hn, xtr, htr, xs, xss, xp, xps, xq, xqs, xqr, xqm, xc, xcs, xo, xos, hpool⟩ := id hX
  obtain ⟨n0, nr0, nr1, nr2, nr3, nr4, ns1, ns2, ns3, ns4, ns5⟩ := id hn
  have t0 := htr.1
  have d0 := hrd.1
  refine xCon.mk (xl := [some (.ref x), some (.int (nI n)), none, none]) (by decide +kernel) (xle_r _) rfl (Nat.le_of_ble_eq_true rfl) rfl ?_
  refine xV_aload_n e_X2_breakOf_0 rfl ?_
  refine xV_getR e_X2_breakOf_1 f_X2_27 (by assumption) (by assumption) ?_
  refine xV_aload_n e_X2_breakOf_4 rfl ?_
  refine xV_getR e_X2_breakOf_5 f_X2_23 (by assumption) (by assumption) ?_
  refine xV_cV1v e_X2_breakOf_8 c_X2_61 (by assumption) (C_X0_take htr hn (by omega)) (Nat.le_of_ble_eq_true rfl) ⟨(Nat.le_of_ble_eq_true rfl), (Nat.le_of_ble_eq_true rfl)⟩ (xle_r _) (xle_r _) ?_
  refine xV_iconst (v := (nI 0)) e_X2_breakOf_11 (by decide) ?_
  refine xV_istore_n e_X2_breakOf_12 (Nat.le_of_ble_eq_true rfl) rfl ?_
  exact P_X2_breakOf_13 hX hn8 0 (Nat.zero_le _) _ _ _ _ _ _ hk
def fig (n code i : Int32) : Int32 := (code >>> ((nI 2 * (n - nI 1 - i)) &&& 31)) &&& nI 3
def sgC (g : Nat → Int32) (n : Nat) (code : Int32) (k : Nat) : Nat → Int32 := fun c => if c < k then fig (nI n) code (nI c) else g c
theorem sgC_s {g : Nat → Int32} {n : Nat} {code : Int32} {k : Nat} : upd (sgC g n code k) k (fig (nI n) code (nI k)) = sgC g n code (k + 1) := by
  funext c
  by_cases e : c = k
  · subst e; simp [sgC, upd]
  · have : c < k + 1 ↔ c < k := by omega
    simp [sgC, upd, e, this]
theorem sgC_0 {g : Nat → Int32} {n : Nat} {code : Int32} : sgC g n code 0 = g := by funext c; simp [sgC]
set_option maxHeartbeats 4000000 in
set_option maxRecDepth 100000 in
theorem C_X2_figureOf {n c i : Int32} : xCon G Y_X2_figureOf [.int n, .int c, .int i] T R L I (xD (some (.int (fig n c i))) T R L I) := by
  refine xCon.mk (xl := [some (.int n), some (.int c), some (.int i)]) (by decide +kernel) (xle_r _) rfl (Nat.le_of_ble_eq_true rfl) rfl ?_
  refine xV_iload_n e_X2_figureOf_0 rfl ?_
  refine xV_iconst (v := (nI 2)) e_X2_figureOf_1 (by decide) ?_
  refine xV_iload_n e_X2_figureOf_2 rfl ?_
  refine xV_iconst (v := (nI 1)) e_X2_figureOf_3 (by decide) ?_
  refine xV_isub e_X2_figureOf_4 ?_
  refine xV_iload_n e_X2_figureOf_5 rfl ?_
  refine xV_isub e_X2_figureOf_6 ?_
  refine xV_imul e_X2_figureOf_7 ?_
  refine xV_ishr e_X2_figureOf_8 ?_
  refine xV_iconst (v := (nI 3)) e_X2_figureOf_9 (by decide) ?_
  refine xV_iand e_X2_figureOf_10 ?_
  exact xV_ireturn e_X2_figureOf_11 rfl rfl ⟨rfl, rfl, rfl, rfl⟩
set_option maxHeartbeats 4000000 in
set_option maxRecDepth 100000 in
theorem P_X2_setSong_2 {x : Nat} (hX : XS G T R x) {n : Nat} {code : Int32} (hn8 : n ≤ 8) : ∀ k, k ≤ n → xV G Y_X2_setSong T (xD none T R L (va_up I (x + 21) (sgC (I (x + 21)) n code n))) 2 [some (.ref x), some (.int (nI n)), some (.int code), some (.int (nI k))] [] T R L (va_up I (x + 21) (sgC (I (x + 21)) n code k)) := by
  obtain ⟨x0, xt, xts, xr, hrd, xn, hn, xtr, htr, xs, xss, xp, xps, xq, xqs, xqr, xqm, xc, xcs, xo, xos, hpool⟩ := id hX
  obtain ⟨n0, nr0, nr1, nr2, nr3, nr4, ns1, ns2, ns3, ns4, ns5⟩ := id hn
  have t0 := htr.1
  have d0 := hrd.1
  refine xloop (n) (fun k hk0 ih => ?_)
  refine xV_iload_n e_X2_setSong_2 rfl ?_
  refine xV_iload_n e_X2_setSong_3 rfl ?_
  refine xV_icmp_geN e_X2_setSong_4 (by omega) (by omega) (fun h4 => ?_) (fun h4 => ?_)
  · obtain rfl : k = n := by omega
    exact xV_return e_X2_setSong_27 rfl rfl ⟨rfl, rfl, rfl, rfl⟩
  · refine xV_aload_n e_X2_setSong_7 rfl ?_
    refine xV_getR e_X2_setSong_8 f_X2_30 (by assumption) (by assumption) ?_
    refine xV_iload_n e_X2_setSong_11 rfl ?_
    refine xV_iload_n e_X2_setSong_12 rfl ?_
    refine xV_iload_n e_X2_setSong_13 rfl ?_
    refine xV_iload_n e_X2_setSong_14 rfl ?_
    refine xV_cS3i e_X2_setSong_15 c_X2_175 (C_X2_figureOf) (Nat.le_of_ble_eq_true rfl) ⟨(Nat.le_of_ble_eq_true rfl), (Nat.le_of_ble_eq_true rfl)⟩ (xle_r _) (xle_r _) ?_
    refine xV_cS3v e_X2_setSong_18 c_X2_50 (C_X2_putN xss (by omega) (by omega)) (Nat.le_of_ble_eq_true rfl) ⟨(Nat.le_of_ble_eq_true rfl), (Nat.le_of_ble_eq_true rfl)⟩ (xle_r _) (xle_r _) ?_
    refine xV_iincN e_X2_setSong_21 rfl rfl ?_
    refine xV_goto e_X2_setSong_24 ?_
    have e1 : xst (va_up I (x + 21) (sgC (I (x + 21)) n code k)) (x + 21) k (fig (nI n) code (nI k)) = va_up I (x + 21) (sgC (I (x + 21)) n code (k + 1)) := by unfold xst; rw [va_up_s, va_up_up, sgC_s]
    rw [e1]
    exact ih (by omega)
set_option maxHeartbeats 4000000 in
set_option maxRecDepth 100000 in
theorem C_X2_setSong {x : Nat} (hX : XS G T R x) {n : Nat} {code : Int32} (hn8 : n ≤ 8) : xCon G Y_X2_setSong [.ref x, .int (nI n), .int code] T R L I (xD none T R L (va_up I (x + 21) (sgC (I (x + 21)) n code n))) := by
  obtain ⟨x0, xt, xts, xr, hrd, xn, hn, xtr, htr, xs, xss, xp, xps, xq, xqs, xqr, xqm, xc, xcs, xo, xos, hpool⟩ := id hX
  obtain ⟨n0, nr0, nr1, nr2, nr3, nr4, ns1, ns2, ns3, ns4, ns5⟩ := id hn
  have t0 := htr.1
  have d0 := hrd.1
  refine xCon.mk (xl := [some (.ref x), some (.int (nI n)), some (.int code), none]) (by decide +kernel) (xle_r _) rfl (Nat.le_of_ble_eq_true rfl) rfl ?_
  refine xV_iconst (v := (nI 0)) e_X2_setSong_0 (by decide) ?_
  refine xV_istore_n e_X2_setSong_1 (Nat.le_of_ble_eq_true rfl) rfl ?_
  have q := P_X2_setSong_2 (L := L) (I := I) (code := code) hX hn8 0 (Nat.zero_le _)
  rw [sgC_0, va_up_own] at q
  exact q
end XPT
