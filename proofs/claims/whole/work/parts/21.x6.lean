/-! PRAYERTAILINGS: chance, month -/
section XPW
variable {G : xG} {T : xT} {R : xR} {L : xL} {I : xI}
def wt (set living x : Int32) : Nat → Int32
  | 0 => nI 1
  | m + 1 => if hs living (nI m) = true then wt set living x m * (if hs set (nI m) = true then x else nI 10 - x) else wt set living x m
def gdL : Nat → Int32 → Int32 → Int32
  | 0, a, _ => a
  | n + 1, a, b => if b = 0 then a else gdL n b (a - a / b * b)
theorem gdL_z {n : Nat} {a b : Int32} (h : b = 0) : gdL n a b = a := by
  cases n with
  | zero => rfl
  | succ n => rw [gdL, if_pos h]
theorem gdL_s {k : Nat} {a b : Int32} (hk : k < 64) (h : ¬ b = 0) : gdL (64 - k) a b = gdL (64 - (k + 1)) b (a - a / b * b) := by
  obtain ⟨m, hm⟩ : ∃ m, 64 - k = m + 1 := ⟨63 - k, by omega⟩
  rw [hm, gdL, if_neg h, show m = 64 - (k + 1) by omega]
set_option maxHeartbeats 4000000 in
set_option maxRecDepth 100000 in
theorem P_X2_weightOf_5 {set living x : Int32} : ∀ k, k ≤ 4 → xV G Y_X2_weightOf T (xD (some (.int (wt set living x 4))) T R L I) 5 [some (.int set), some (.int living), some (.int x), some (.int (wt set living x k)), some (.int (nI k))] [] T R L I := by
  refine xloop (4) (fun k hk0 ih => ?_)
  refine xV_iload e_X2_weightOf_5 rfl ?_
  refine xV_iconst (v := (nI 4)) e_X2_weightOf_7 (by decide) ?_
  refine xV_icmp_geN e_X2_weightOf_8 (by omega) (by omega) (fun h8 => ?_) (fun h8 => ?_)
  · obtain rfl : k = 4 := by omega
    refine xV_iload_n e_X2_weightOf_46 rfl ?_
    exact xV_ireturn e_X2_weightOf_47 rfl rfl ⟨rfl, rfl, rfl, rfl⟩
  · refine xV_iload_n e_X2_weightOf_11 rfl ?_
    refine xV_iload e_X2_weightOf_12 rfl ?_
    refine xV_cS2i e_X2_weightOf_14 c_X2_152 (C_X2_has) (Nat.le_of_ble_eq_true rfl) ⟨(Nat.le_of_ble_eq_true rfl), (Nat.le_of_ble_eq_true rfl)⟩ (xle_r _) (xle_r _) ?_
    refine xV_if_eqB e_X2_weightOf_17 (fun h17 => ?_) (fun h17 => ?_)
    · refine xV_iincN e_X2_weightOf_40 rfl rfl ?_
      refine xV_goto e_X2_weightOf_43 ?_
      have q := ih (by omega)
      rw [show wt set living x (k + 1) = wt set living x k from by rw [wt, if_neg (by rw [h17]; decide)]] at q
      exact q
    · refine xV_iload_n e_X2_weightOf_20 rfl ?_
      refine xV_iload_n e_X2_weightOf_21 rfl ?_
      refine xV_iload e_X2_weightOf_22 rfl ?_
      refine xV_cS2i e_X2_weightOf_24 c_X2_152 (C_X2_has) (Nat.le_of_ble_eq_true rfl) ⟨(Nat.le_of_ble_eq_true rfl), (Nat.le_of_ble_eq_true rfl)⟩ (xle_r _) (xle_r _) ?_
      refine xV_if_eqB e_X2_weightOf_27 (fun h27 => ?_) (fun h27 => ?_)
      · refine xV_bipush (v := (nI 10)) e_X2_weightOf_34 (by decide) ?_
        refine xV_iload_n e_X2_weightOf_36 rfl ?_
        refine xV_isub e_X2_weightOf_37 ?_
        refine xV_imul e_X2_weightOf_38 ?_
        refine xV_istore_n e_X2_weightOf_39 (Nat.le_of_ble_eq_true rfl) rfl ?_
        refine xV_iincN e_X2_weightOf_40 rfl rfl ?_
        refine xV_goto e_X2_weightOf_43 ?_
        have q := ih (by omega)
        rw [show wt set living x (k + 1) = wt set living x k * (nI 10 - x) from by rw [wt, if_pos h17, if_neg (by rw [h27]; decide)]] at q
        exact q
      · refine xV_iload_n e_X2_weightOf_30 rfl ?_
        refine xV_goto e_X2_weightOf_31 ?_
        refine xV_imul e_X2_weightOf_38 ?_
        refine xV_istore_n e_X2_weightOf_39 (Nat.le_of_ble_eq_true rfl) rfl ?_
        refine xV_iincN e_X2_weightOf_40 rfl rfl ?_
        refine xV_goto e_X2_weightOf_43 ?_
        have q := ih (by omega)
        rw [show wt set living x (k + 1) = wt set living x k * x from by rw [wt, if_pos h17, if_pos h27]] at q
        exact q
set_option maxHeartbeats 4000000 in
set_option maxRecDepth 100000 in
theorem C_X2_weightOf {set living x : Int32} : xCon G Y_X2_weightOf [.int set, .int living, .int x] T R L I (xD (some (.int (wt set living x 4))) T R L I) := by
  refine xCon.mk (xl := [some (.int set), some (.int living), some (.int x), none, none]) (by decide +kernel) (xle_r _) rfl (Nat.le_of_ble_eq_true rfl) rfl ?_
  refine xV_iconst (v := (nI 1)) e_X2_weightOf_0 (by decide) ?_
  refine xV_istore_n e_X2_weightOf_1 (Nat.le_of_ble_eq_true rfl) rfl ?_
  refine xV_iconst (v := (nI 0)) e_X2_weightOf_2 (by decide) ?_
  refine xV_istore e_X2_weightOf_3 (Nat.le_of_ble_eq_true rfl) rfl ?_
  exact P_X2_weightOf_5 0 (Nat.zero_le _)
set_option maxHeartbeats 4000000 in
set_option maxRecDepth 100000 in
theorem P_X2_commonDivisor_7 {a0 b0 : Int32} : ∀ k, k ≤ 64 → ∀ (a b : Int32), xV G Y_X2_commonDivisor T (xD (some (.int (gdL (64 - k) a b))) T R L I) 7 [some (.int a0), some (.int b0), some (.int a), some (.int b), some (.int (nI k)), none] [] T R L I := by
  refine xloop (64) (fun k hk0 ih => ?_)
  intro a b
  refine xV_iload e_X2_commonDivisor_7 rfl ?_
  refine xV_bipush (v := (nI 64)) e_X2_commonDivisor_9 (by decide) ?_
  refine xV_icmp_geN e_X2_commonDivisor_11 (by omega) (by omega) (fun h11 => ?_) (fun h11 => ?_)
  · refine xV_iload_n e_X2_commonDivisor_34 rfl ?_
    exact xV_ireturn e_X2_commonDivisor_35 rfl rfl ⟨by rw [show k = 64 by omega]; rfl, rfl, rfl, rfl⟩
  · refine xV_iload_n e_X2_commonDivisor_14 rfl ?_
    refine xV_if_eq e_X2_commonDivisor_15 (fun h15 => ?_) (fun h15 => ?_)
    · refine xV_iload_n e_X2_commonDivisor_34 rfl ?_
      exact xV_ireturn e_X2_commonDivisor_35 rfl rfl ⟨by rw [gdL_z h15], rfl, rfl, rfl⟩
    · refine xV_iload_n e_X2_commonDivisor_18 rfl ?_
      refine xV_iload_n e_X2_commonDivisor_19 rfl ?_
      refine xV_irem e_X2_commonDivisor_20 (by first | assumption | decide) ?_
      refine xV_istore e_X2_commonDivisor_21 (Nat.le_of_ble_eq_true rfl) rfl ?_
      refine xV_iload_n e_X2_commonDivisor_23 rfl ?_
      refine xV_istore_n e_X2_commonDivisor_24 (Nat.le_of_ble_eq_true rfl) rfl ?_
      refine xV_iload e_X2_commonDivisor_25 rfl ?_
      refine xV_istore_n e_X2_commonDivisor_27 (Nat.le_of_ble_eq_true rfl) rfl ?_
      refine xV_iincN e_X2_commonDivisor_28 rfl rfl ?_
      refine xV_goto e_X2_commonDivisor_31 ?_
      rw [gdL_s (by omega) h15]
      refine xV_sub (xl' := [some (.int a0), some (.int b0), some (.int b), some (.int (a - a / b * b)), some (.int (nI (k + 1))), none]) ⟨rfl, rfl, rfl, rfl, rfl, trivial⟩ ?_
      exact ih (by omega) _ _
set_option maxHeartbeats 4000000 in
set_option maxRecDepth 100000 in
theorem C_X2_commonDivisor {a b : Int32} : xCon G Y_X2_commonDivisor [.int a, .int b] T R L I (xD (some (.int (gdL 64 a b))) T R L I) := by
  refine xCon.mk (xl := [some (.int a), some (.int b), none, none, none, none]) (by decide +kernel) (xle_r _) rfl (Nat.le_of_ble_eq_true rfl) rfl ?_
  refine xV_iload_n e_X2_commonDivisor_0 rfl ?_
  refine xV_istore_n e_X2_commonDivisor_1 (Nat.le_of_ble_eq_true rfl) rfl ?_
  refine xV_iload_n e_X2_commonDivisor_2 rfl ?_
  refine xV_istore_n e_X2_commonDivisor_3 (Nat.le_of_ble_eq_true rfl) rfl ?_
  refine xV_iconst (v := (nI 0)) e_X2_commonDivisor_4 (by decide) ?_
  refine xV_istore e_X2_commonDivisor_5 (Nat.le_of_ble_eq_true rfl) rfl ?_
  exact P_X2_commonDivisor_7 0 (Nat.zero_le _) _ _
/-- chance: the weight of all, the weight of those by which the cell falls -/
def cF (mo : Nat) (S : xS) (c x : Int32) : Nat → Int32 × Int32
  | 0 => (nI 0, nI 0)
  | k + 1 => if nI k &&& (vLiv S.1 ^^^ (-1)) = 0 then ((cF mo S c x k).1 + (if hs ((gPa mo (nI k) S 4).1 9) c = true then wt (nI k) (vLiv S.1) x 4 else nI 0), (cF mo S c x k).2 + wt (nI k) (vLiv S.1) x 4) else cF mo S c x k
theorem cF_f {mo k : Nat} {S : xS} {c x : Int32} (h : ¬ nI k &&& (vLiv S.1 ^^^ (-1)) = 0) : cF mo S c x (k + 1) = cF mo S c x k := by rw [cF, if_neg h]
theorem cF_t {mo k : Nat} {S : xS} {c x : Int32} (h : nI k &&& (vLiv S.1 ^^^ (-1)) = 0) (h2 : hs ((gPa mo (nI k) S 4).1 9) c = true) : cF mo S c x (k + 1) = ((cF mo S c x k).1 + wt (nI k) (vLiv S.1) x 4, (cF mo S c x k).2 + wt (nI k) (vLiv S.1) x 4) := by rw [cF, if_pos h, if_pos h2]
theorem cF_u {mo k : Nat} {S : xS} {c x : Int32} (h : nI k &&& (vLiv S.1 ^^^ (-1)) = 0) (h2 : hs ((gPa mo (nI k) S 4).1 9) c = false) : cF mo S c x (k + 1) = ((cF mo S c x k).1 + nI 0, (cF mo S c x k).2 + wt (nI k) (vLiv S.1) x 4) := by rw [cF, if_pos h, if_neg (by rw [h2]; decide)]
def cG (mo : Nat) (S : xS) (c x : Int32) : Int32 := gdL 64 (cF mo S c x 16).1 (cF mo S c x 16).2
def qChance (mo : Nat) (S : xS) (c x up : Int32) : Int32 :=
  if bCell c = true then (if x < 0 then (-2) else if x ≤ nI 10 then (if cG mo S c x = 0 then nI 0 else if up = 0 then (cF mo S c x 16).2 / cG mo S c x else (cF mo S c x 16).1 / cG mo S c x) else (-2)) else (-1)
set_option maxHeartbeats 4000000 in
set_option maxRecDepth 100000 in
theorem P_X2_chance_40 {x : Nat} (hX : XS G T R x) {mo : Nat} (hk : MOK mo (mS I (x + 9))) {c xx up : Int32} (hc : bCell c = true) (hx0 : ¬ xx < 0) (hx1 : xx ≤ nI 10) : ∀ k, k ≤ 16 → ∀ J, Scr x I J → xV G Y_X2_chance T ((T, fun v R2 L2 I2 => ∃ r, v = some (.int r) ∧ (r = qChance mo (mS I (x + 9)) c xx up ∧ R2 = R ∧ L2 = L ∧ Scr x I I2))) 40 [some (.ref x), some (.int c), some (.int xx), some (.int up), some (.int (vLiv (I (x + 9)))), some (.int (cF mo (mS I (x + 9)) c xx k).1), some (.int (cF mo (mS I (x + 9)) c xx k).2), some (.int (nI k)), none] [] T R L J := by
  obtain ⟨x0, xt, xts, xr, hrd, xn, hn, xtr, htr, xs, xss, xp, xps, xq, xqs, xqr, xqm, xc, xcs, xo, xos, hpool⟩ := id hX
  obtain ⟨n0, nr0, nr1, nr2, nr3, nr4, ns1, ns2, ns3, ns4, ns5⟩ := id hn
  have t0 := htr.1
  have d0 := hrd.1
  refine xloop 16 (fun k hk0 ih => ?_)
  intro J hJ
  refine xV_iload e_X2_chance_40 rfl ?_
  refine xV_bipush (v := (nI 16)) e_X2_chance_42 (by decide) ?_
  refine xV_icmp_geN e_X2_chance_44 (by omega) (by omega) (fun h44 => ?_) (fun h44 => ?_)
  · obtain rfl : k = 16 := by omega
    refine xV_iload e_X2_chance_122 rfl ?_
    refine xV_iload e_X2_chance_124 rfl ?_
    refine xV_cS2i e_X2_chance_126 c_X2_195 (C_X2_commonDivisor) (Nat.le_of_ble_eq_true rfl) ⟨(Nat.le_of_ble_eq_true rfl), (Nat.le_of_ble_eq_true rfl)⟩ (xle_r _) (xle_r _) ?_
    refine xV_istore e_X2_chance_129 (Nat.le_of_ble_eq_true rfl) rfl ?_
    refine xV_iload e_X2_chance_131 rfl ?_
    refine xV_if_ne e_X2_chance_133 (fun h133 => ?_) (fun h133 => ?_)
    · refine xV_iload_n e_X2_chance_138 rfl ?_
      refine xV_if_eq e_X2_chance_139 (fun h139 => ?_) (fun h139 => ?_)
      · refine xV_iload e_X2_chance_147 rfl ?_
        refine xV_iload e_X2_chance_149 rfl ?_
        refine xV_idiv e_X2_chance_151 h133 ?_
        exact xV_ireturn e_X2_chance_152 rfl rfl ⟨_, rfl, by rw [qChance, if_pos hc, if_neg hx0, if_pos hx1, if_neg (show ¬ cG mo (mS I (x + 9)) c xx = 0 from h133), if_pos h139]; rfl, rfl, rfl, hJ⟩
      · refine xV_iload e_X2_chance_142 rfl ?_
        refine xV_goto e_X2_chance_144 ?_
        refine xV_iload e_X2_chance_149 rfl ?_
        refine xV_idiv e_X2_chance_151 h133 ?_
        exact xV_ireturn e_X2_chance_152 rfl rfl ⟨_, rfl, by rw [qChance, if_pos hc, if_neg hx0, if_pos hx1, if_neg (show ¬ cG mo (mS I (x + 9)) c xx = 0 from h133), if_neg h139]; rfl, rfl, rfl, hJ⟩
    · refine xV_iconst (v := (nI 0)) e_X2_chance_136 (by decide) ?_
      exact xV_ireturn e_X2_chance_137 rfl rfl ⟨_, rfl, by rw [qChance, if_pos hc, if_neg hx0, if_pos hx1, if_pos (show cG mo (mS I (x + 9)) c xx = 0 from h133)], rfl, rfl, hJ⟩
  · refine xV_iload e_X2_chance_47 rfl ?_
    refine xV_iload e_X2_chance_49 rfl ?_
    refine xV_iconst (v := (-1)) e_X2_chance_51 (by decide) ?_
    refine xV_ixor e_X2_chance_52 ?_
    refine xV_iand e_X2_chance_53 ?_
    refine xV_if_ne e_X2_chance_54 (fun h54 => ?_) (fun h54 => ?_)
    · refine xV_iincN e_X2_chance_116 rfl rfl ?_
      refine xV_goto e_X2_chance_119 ?_
      refine xV_sub (xl' := [some (.ref x), some (.int c), some (.int xx), some (.int up), some (.int (vLiv (I (x + 9)))), some (.int (cF mo (mS I (x + 9)) c xx (k + 1)).1), some (.int (cF mo (mS I (x + 9)) c xx (k + 1)).2), some (.int (nI (k + 1))), none]) ?_ ?_
      · rw [cF_f (S := (mS I (x + 9))) h54]
        exact ⟨rfl, rfl, rfl, rfl, rfl, rfl, rfl, rfl, trivial⟩
      exact ih (by omega) _ hJ
    · refine xV_iload e_X2_chance_57 rfl ?_
      refine xV_iload e_X2_chance_59 rfl ?_
      refine xV_iload_n e_X2_chance_61 rfl ?_
      refine xV_cS3i e_X2_chance_62 c_X2_192 (C_X2_weightOf) (Nat.le_of_ble_eq_true rfl) ⟨(Nat.le_of_ble_eq_true rfl), (Nat.le_of_ble_eq_true rfl)⟩ (xle_r _) (xle_r _) ?_
      refine xV_istore e_X2_chance_65 (Nat.le_of_ble_eq_true rfl) rfl ?_
      refine xV_iload e_X2_chance_67 rfl ?_
      refine xV_iload e_X2_chance_69 rfl ?_
      refine xV_iadd e_X2_chance_71 ?_
      refine xV_istore e_X2_chance_72 (Nat.le_of_ble_eq_true rfl) rfl ?_
      refine xV_aload_n e_X2_chance_74 rfl ?_
      refine xV_getR e_X2_chance_75 f_X2_27 (by assumption) (by assumption) ?_
      refine xV_aload_n e_X2_chance_78 rfl ?_
      refine xV_getR e_X2_chance_79 f_X2_23 (by assumption) (by assumption) ?_
      refine xV_cV1v e_X2_chance_82 c_X2_61 (by assumption) (C_X0_take htr hn (by omega)) (Nat.le_of_ble_eq_true rfl) ⟨(Nat.le_of_ble_eq_true rfl), (Nat.le_of_ble_eq_true rfl)⟩ (xle_r _) (xle_r _) ?_
      refine xV_aload_n e_X2_chance_85 rfl ?_
      refine xV_getR e_X2_chance_86 f_X2_27 (by assumption) (by assumption) ?_
      refine xV_iload e_X2_chance_89 rfl ?_
      refine xV_cV1v e_X2_chance_91 c_X2_186 (by assumption) (S_X0_prayAll htr (by rw [hJ.now]; exact hk)) (Nat.le_of_ble_eq_true rfl) ⟨(Nat.le_of_ble_eq_true rfl), (Nat.le_of_ble_eq_true rfl)⟩ (xle_r _) (xle_r _) ?_
      refine xV_iload e_X2_chance_94 rfl ?_
      refine xV_aload_n e_X2_chance_96 rfl ?_
      refine xV_getR e_X2_chance_97 f_X2_27 (by assumption) (by assumption) ?_
      refine xV_iload_n e_X2_chance_100 rfl ?_
      refine xV_cV1i e_X2_chance_101 c_X2_115 (by assumption) (S_X0_isFallen htr) (Nat.le_of_ble_eq_true rfl) ⟨(Nat.le_of_ble_eq_true rfl), (Nat.le_of_ble_eq_true rfl)⟩ (xle_r _) (xle_r _) ?_
      rw [hJ.now]
      refine xV_if_eqB e_X2_chance_104 (fun h104 => ?_) (fun h104 => ?_)
      · refine xV_iconst (v := (nI 0)) e_X2_chance_112 (by decide) ?_
        refine xV_iadd e_X2_chance_113 ?_
        refine xV_istore e_X2_chance_114 (Nat.le_of_ble_eq_true rfl) rfl ?_
        refine xV_iincN e_X2_chance_116 rfl rfl ?_
        refine xV_goto e_X2_chance_119 ?_
        refine xV_sub (xl' := [some (.ref x), some (.int c), some (.int xx), some (.int up), some (.int (vLiv (I (x + 9)))), some (.int (cF mo (mS I (x + 9)) c xx (k + 1)).1), some (.int (cF mo (mS I (x + 9)) c xx (k + 1)).2), some (.int (nI (k + 1))), none]) ?_ ?_
        · rw [cF_u (S := (mS I (x + 9))) h54 h104]
          exact ⟨rfl, rfl, rfl, rfl, rfl, rfl, rfl, rfl, trivial⟩
        exact ih (by omega) _ (hJ.tr Scr.trial)
      · refine xV_iload e_X2_chance_107 rfl ?_
        refine xV_goto e_X2_chance_109 ?_
        refine xV_iadd e_X2_chance_113 ?_
        refine xV_istore e_X2_chance_114 (Nat.le_of_ble_eq_true rfl) rfl ?_
        refine xV_iincN e_X2_chance_116 rfl rfl ?_
        refine xV_goto e_X2_chance_119 ?_
        refine xV_sub (xl' := [some (.ref x), some (.int c), some (.int xx), some (.int up), some (.int (vLiv (I (x + 9)))), some (.int (cF mo (mS I (x + 9)) c xx (k + 1)).1), some (.int (cF mo (mS I (x + 9)) c xx (k + 1)).2), some (.int (nI (k + 1))), none]) ?_ ?_
        · rw [cF_t (S := (mS I (x + 9))) h54 h104]
          exact ⟨rfl, rfl, rfl, rfl, rfl, rfl, rfl, rfl, trivial⟩
        exact ih (by omega) _ (hJ.tr Scr.trial)
set_option maxHeartbeats 4000000 in
set_option maxRecDepth 100000 in
theorem C_X2_chance {x : Nat} (hX : XS G T R x) {mo : Nat} (hk : MOK mo (mS I (x + 9))) {c xx up : Int32} : xCon G Y_X2_chance [.ref x, .int c, .int xx, .int up] T R L I ((T, fun v R2 L2 I2 => ∃ r, v = some (.int r) ∧ (r = qChance mo (mS I (x + 9)) c xx up ∧ R2 = R ∧ L2 = L ∧ Scr x I I2))) := by
  obtain ⟨x0, xt, xts, xr, hrd, xn, hn, xtr, htr, xs, xss, xp, xps, xq, xqs, xqr, xqm, xc, xcs, xo, xos, hpool⟩ := id hX
  obtain ⟨n0, nr0, nr1, nr2, nr3, nr4, ns1, ns2, ns3, ns4, ns5⟩ := id hn
  have t0 := htr.1
  have d0 := hrd.1
  refine xCon.mk (xl := [some (.ref x), some (.int c), some (.int xx), some (.int up), none, none, none, none, none]) (by decide +kernel) (xle_r _) rfl (Nat.le_of_ble_eq_true rfl) rfl ?_
  refine xV_iload_n e_X2_chance_0 rfl ?_
  refine xV_cS1i e_X2_chance_1 c_X2_95 (C_X2_isCell) (Nat.le_of_ble_eq_true rfl) ⟨(Nat.le_of_ble_eq_true rfl), (Nat.le_of_ble_eq_true rfl)⟩ (xle_r _) (xle_r _) ?_
  refine xV_if_neB e_X2_chance_4 (fun h4 => ?_) (fun h4 => ?_)
  · refine xV_iload_n e_X2_chance_9 rfl ?_
    refine xV_if_lt e_X2_chance_10 (fun h10 => ?_) (fun h10 => ?_)
    · refine xV_bipush (v := (-2)) e_X2_chance_19 (by decide) ?_
      exact xV_ireturn e_X2_chance_21 rfl rfl ⟨_, rfl, by rw [qChance, if_pos h4, if_pos h10], rfl, rfl, Scr.rf⟩
    · refine xV_iload_n e_X2_chance_13 rfl ?_
      refine xV_bipush (v := (nI 10)) e_X2_chance_14 (by decide) ?_
      refine xV_icmp_le e_X2_chance_16 (fun h16 => ?_) (fun h16 => ?_)
      · refine xV_aload_n e_X2_chance_22 rfl ?_
        refine xV_getR e_X2_chance_23 f_X2_23 (by assumption) (by assumption) ?_
        refine xV_cV0i e_X2_chance_26 c_X2_159 (by assumption) (G_X0_living (by assumption)) (Nat.le_of_ble_eq_true rfl) ⟨(Nat.le_of_ble_eq_true rfl), (Nat.le_of_ble_eq_true rfl)⟩ (xle_r _) (xle_r _) ?_
        refine xV_istore e_X2_chance_29 (Nat.le_of_ble_eq_true rfl) rfl ?_
        refine xV_iconst (v := (nI 0)) e_X2_chance_31 (by decide) ?_
        refine xV_istore e_X2_chance_32 (Nat.le_of_ble_eq_true rfl) rfl ?_
        refine xV_iconst (v := (nI 0)) e_X2_chance_34 (by decide) ?_
        refine xV_istore e_X2_chance_35 (Nat.le_of_ble_eq_true rfl) rfl ?_
        refine xV_iconst (v := (nI 0)) e_X2_chance_37 (by decide) ?_
        refine xV_istore e_X2_chance_38 (Nat.le_of_ble_eq_true rfl) rfl ?_
        exact P_X2_chance_40 hX hk h4 h10 h16 0 (Nat.zero_le _) I Scr.rf
      · refine xV_bipush (v := (-2)) e_X2_chance_19 (by decide) ?_
        exact xV_ireturn e_X2_chance_21 rfl rfl ⟨_, rfl, by rw [qChance, if_pos h4, if_neg h10, if_neg h16], rfl, rfl, Scr.rf⟩
  · refine xV_iconst (v := (-1)) e_X2_chance_7 (by decide) ?_
    exact xV_ireturn e_X2_chance_8 rfl rfl ⟨_, rfl, by rw [qChance, if_neg (by rw [h4]; decide)], rfl, rfl, Scr.rf⟩
-- month
def nx (s : Int64) : Int64 := s * 6364136223846793005 + 1442695040888963407
def tn (s : Int64) : Int32 := ((s.toUInt64 >>> ((nI 33).toInt64.toUInt64 &&& Int64.toUInt64 63)).toInt64 - (s.toUInt64 >>> ((nI 33).toInt64.toUInt64 &&& Int64.toUInt64 63)).toInt64 / 10 * 10).toInt32
def mK (mo : Nat) (t : Int32) (X : xS × Int64) : Nat → xS × Int64
  | 0 => X
  | k + 1 => if bLiv (mK mo t X k).1.1 (nI k) = true then (if nx (mK mo t X k).2 |> tn |> (t ≤ ·) then ((mK mo t X k).1, nx (mK mo t X k).2) else (gPr mo (mK mo t X k).1 k, nx (mK mo t X k).2)) else mK mo t X k
theorem mK_l {mo k : Nat} {t : Int32} {X : xS × Int64} (h : bLiv (mK mo t X k).1.1 (nI k) = false) : mK mo t X (k + 1) = mK mo t X k := by rw [mK, if_neg (by rw [h]; decide)]
theorem mK_n {mo k : Nat} {t : Int32} {X : xS × Int64} (h : bLiv (mK mo t X k).1.1 (nI k) = true) (h2 : t ≤ tn (nx (mK mo t X k).2)) : mK mo t X (k + 1) = ((mK mo t X k).1, nx (mK mo t X k).2) := by
  rw [mK, if_pos h]
  exact if_pos h2
theorem mK_y {mo k : Nat} {t : Int32} {X : xS × Int64} (h : bLiv (mK mo t X k).1.1 (nI k) = true) (h2 : ¬ t ≤ tn (nx (mK mo t X k).2)) : mK mo t X (k + 1) = (gPr mo (mK mo t X k).1 k, nx (mK mo t X k).2) := by
  rw [mK, if_pos h]
  exact if_neg h2
def mD (mo : Nat) (t : Int32) (X : xS × Int64) : Nat → xS × Int64
  | 0 => X
  | k + 1 => (gEd mo (mK mo t (mD mo t X k) 4).1, (mK mo t (mD mo t X k) 4).2)
theorem keep_mK (mo : Nat) (t : Int32) (X : xS × Int64) : ∀ k, keepS X.1 (mK mo t X k).1 := by
  intro k
  induction k with
  | zero => exact keepS.rf _
  | succ k ih =>
    rw [mK]
    split
    · split
      · exact ih
      · exact ih.tr (keep_pr mo _ k)
    · exact ih
theorem keep_mD (mo : Nat) (t : Int32) (X : xS × Int64) : ∀ k, keepS X.1 (mD mo t X k).1 := by
  intro k
  induction k with
  | zero => exact keepS.rf _
  | succ k ih =>
    rw [mD]
    have a := keep_mK mo t (mD mo t X k) 4
    generalize mK mo t (mD mo t X k) 4 = Z at a ⊢
    exact keepS.tr ih (keepS.tr a (keep_ed mo Z.1))
theorem xsl_s {L : xL} {a k : Nat} {v : Int64} : xsl L a k v a = va_up (L a) k v := by unfold xsl; rw [va_up_s]
theorem xsl_xsl {L : xL} {a k : Nat} {v w : Int64} : xsl (xsl L a k v) a k w = xsl L a k w := by
  unfold xsl
  rw [va_up_s, va_up_up, va_up_up]
theorem xsl_own {L : xL} {a k : Nat} : xsl L a k (L a k) = L := by unfold xsl; rw [va_up_own, va_up_own]
set_option maxHeartbeats 4000000 in
set_option maxRecDepth 100000 in
theorem C_X2_nextTenth0 {x : Nat} (hX : XS G T R x) : xCon G Y_X2_nextTenth [.ref x] T R L I (xD (some (.int (tn (nx (L x 13))))) T R (xsl L x 13 (nx (L x 13))) I) := by
  obtain ⟨x0, xt, xts, xr, hrd, xn, hn, xtr, htr, xs, xss, xp, xps, xq, xqs, xqr, xqm, xc, xcs, xo, xos, hpool⟩ := id hX
  obtain ⟨n0, nr0, nr1, nr2, nr3, nr4, ns1, ns2, ns3, ns4, ns5⟩ := id hn
  have t0 := htr.1
  have d0 := hrd.1
  refine xCon.mk (xl := [some (.ref x)]) (by decide +kernel) (xle_r _) rfl (Nat.le_of_ble_eq_true rfl) rfl ?_
  refine xV_aload_n e_X2_nextTenth_0 rfl ?_
  refine xV_aload_n e_X2_nextTenth_1 rfl ?_
  refine xV_getL e_X2_nextTenth_2 f_X2_198 (by assumption) ?_
  refine xV_ldc2 e_X2_nextTenth_5 k_X2_215 ?_
  refine xV_lmul e_X2_nextTenth_8 ?_
  refine xV_ldc2 e_X2_nextTenth_9 k_X2_217 ?_
  refine xV_ladd e_X2_nextTenth_12 ?_
  refine xV_putL e_X2_nextTenth_13 p_X2_198 (by assumption) ?_
  refine xV_aload_n e_X2_nextTenth_16 rfl ?_
  refine xV_getL e_X2_nextTenth_17 f_X2_198 (by assumption) ?_
  rw [show L x 13 * 6364136223846793005 + 1442695040888963407 = nx (L x 13) from rfl, show xsl L x 13 (nx (L x 13)) x 13 = nx (L x 13) from by rw [xsl_s, va_up_s]]
  refine xV_bipush (v := (nI 33)) e_X2_nextTenth_20 (by decide) ?_
  refine xV_lushr e_X2_nextTenth_22 ?_
  refine xV_ldc2 e_X2_nextTenth_23 k_X2_219 ?_
  refine xV_lrem e_X2_nextTenth_26 (by first | assumption | decide) ?_
  refine xV_l2i e_X2_nextTenth_27 ?_
  exact xV_ireturn e_X2_nextTenth_28 rfl rfl ⟨rfl, rfl, rfl, rfl⟩
theorem C_X2_nextTenth {x : Nat} (hX : XS G T R x) {s : Int64} : xCon G Y_X2_nextTenth [.ref x] T R (xsl L x 13 s) I (xD (some (.int (tn (nx s)))) T R (xsl L x 13 (nx s)) I) := by
  have q := C_X2_nextTenth0 (L := xsl L x 13 s) (I := I) hX
  rwa [xsl_s, va_up_s, xsl_xsl] at q
set_option maxHeartbeats 4000000 in
set_option maxRecDepth 100000 in
theorem P_X2_month_45 {x : Nat} (hX : XS G T R x) {mo m d : Nat} {t : Int32} {X : xS × Int64} {o : xO} (ho : o.1 = T) (hkD : MOK mo (mD mo t X d).1)
    (hout : xV G Y_X2_month T o 37 [some (.ref x), some (.int (nI m)), some (.int t), some (.int (nI (d + 1))), some (.int (nI 4))] [] T R (xsl L x 13 (mD mo t X (d + 1)).2) (pm I (x + 15) (mD mo t X (d + 1)).1)) : ∀ k, k ≤ 4 → xV G Y_X2_month T o 45 [some (.ref x), some (.int (nI m)), some (.int t), some (.int (nI d)), some (.int (nI k))] [] T R (xsl L x 13 (mK mo t (mD mo t X d) k).2) (pm I (x + 15) (mK mo t (mD mo t X d) k).1) := by
  obtain ⟨x0, xt, xts, xr, hrd, xn, hn, xtr, htr, xs, xss, xp, xps, xq, xqs, xqr, xqm, xc, xcs, xo, xos, hpool⟩ := id hX
  obtain ⟨n0, nr0, nr1, nr2, nr3, nr4, ns1, ns2, ns3, ns4, ns5⟩ := id hn
  have t0 := htr.1
  have d0 := hrd.1
  obtain ⟨oT, oP⟩ := o
  subst ho
  refine xloop 4 (fun k hk0 ih => ?_)
  refine xV_iload e_X2_month_45 rfl ?_
  refine xV_iconst (v := (nI 4)) e_X2_month_47 (by decide) ?_
  refine xV_icmp_geN e_X2_month_48 (by omega) (by omega) (fun h48 => ?_) (fun h48 => ?_)
  · obtain rfl : k = 4 := by omega
    refine xV_aload_n e_X2_month_87 rfl ?_
    refine xV_getR e_X2_month_88 f_X2_27 (by assumption) (by assumption) ?_
    refine xV_cV0i e_X2_month_91 c_X2_162 (by assumption) (S_X0_endDay htr (hkD.keep (keep_mK mo t (mD mo t X d) 4))) (Nat.le_of_ble_eq_true rfl) ⟨(Nat.le_of_ble_eq_true rfl), (Nat.le_of_ble_eq_true rfl)⟩ (xle_r _) (xle_r _) ?_
    refine xV_pop e_X2_month_94 rfl ?_
    refine xV_iincN e_X2_month_95 rfl rfl ?_
    refine xV_goto e_X2_month_98 ?_
    rw [mD] at hout
    dsimp only at hout
    exact hout
  · refine xV_aload_n e_X2_month_51 rfl ?_
    refine xV_getR e_X2_month_52 f_X2_27 (by assumption) (by assumption) ?_
    refine xV_iload e_X2_month_55 rfl ?_
    refine xV_cV1i e_X2_month_57 c_X2_134 (by assumption) (S_X0_isLiving htr) (Nat.le_of_ble_eq_true rfl) ⟨(Nat.le_of_ble_eq_true rfl), (Nat.le_of_ble_eq_true rfl)⟩ (xle_r _) (xle_r _) ?_
    refine xV_if_eqB e_X2_month_60 (fun h60 => ?_) (fun h60 => ?_)
    · refine xV_iincN e_X2_month_81 rfl rfl ?_
      refine xV_goto e_X2_month_84 ?_
      have q := ih (by omega)
      rw [mK_l (X := (mD mo t X d)) h60] at q
      exact q
    · refine xV_aload_n e_X2_month_63 rfl ?_
      refine xV_cV0i e_X2_month_64 c_X2_202 (by assumption) (C_X2_nextTenth hX) (Nat.le_of_ble_eq_true rfl) ⟨(Nat.le_of_ble_eq_true rfl), (Nat.le_of_ble_eq_true rfl)⟩ (xle_r _) (xle_r _) ?_
      refine xV_iload_n e_X2_month_67 rfl ?_
      refine xV_icmp_ge e_X2_month_68 (fun h68 => ?_) (fun h68 => ?_)
      · refine xV_iincN e_X2_month_81 rfl rfl ?_
        refine xV_goto e_X2_month_84 ?_
        have q := ih (by omega)
        rw [mK_n (X := (mD mo t X d)) h60 h68] at q
        exact q
      · refine xV_aload_n e_X2_month_71 rfl ?_
        refine xV_getR e_X2_month_72 f_X2_27 (by assumption) (by assumption) ?_
        refine xV_iload e_X2_month_75 rfl ?_
        refine xV_cV1i e_X2_month_77 c_X2_140 (by assumption) (S_X0_prayer htr (hkD.keep (keep_mK mo t (mD mo t X d) k)) (bLiv_M h60)) (Nat.le_of_ble_eq_true rfl) ⟨(Nat.le_of_ble_eq_true rfl), (Nat.le_of_ble_eq_true rfl)⟩ (xle_r _) (xle_r _) ?_
        rw [nI_clamp (by omega)]
        refine xV_pop e_X2_month_80 rfl ?_
        refine xV_iincN e_X2_month_81 rfl rfl ?_
        refine xV_goto e_X2_month_84 ?_
        have q := ih (by omega)
        rw [mK_y (X := (mD mo t X d)) h60 h68] at q
        exact q
set_option maxHeartbeats 4000000 in
set_option maxRecDepth 100000 in
theorem P_X2_month_37 {x : Nat} (hX : XS G T R x) {mo m : Nat} {t : Int32} {X : xS × Int64} (hm : m ≤ 30) (hkX : MOK mo X.1) : ∀ k, k ≤ m → ∀ j : Option Value, xV G Y_X2_month T ((T, fun v R2 L2 I2 => ∃ r, v = some (.int r) ∧ (r = (mD mo t X m).1.1 10 ∧ R2 = R ∧ L2 = xsl L x 13 (mD mo t X m).2 ∧ Scr x I I2))) 37 [some (.ref x), some (.int (nI m)), some (.int t), some (.int (nI k)), j] [] T R (xsl L x 13 (mD mo t X k).2) (pm I (x + 15) (mD mo t X k).1) := by
  obtain ⟨x0, xt, xts, xr, hrd, xn, hn, xtr, htr, xs, xss, xp, xps, xq, xqs, xqr, xqm, xc, xcs, xo, xos, hpool⟩ := id hX
  obtain ⟨n0, nr0, nr1, nr2, nr3, nr4, ns1, ns2, ns3, ns4, ns5⟩ := id hn
  have t0 := htr.1
  have d0 := hrd.1
  refine xloop m (fun k hk0 ih => ?_)
  intro j
  refine xV_iload_n e_X2_month_37 rfl ?_
  refine xV_iload_n e_X2_month_38 rfl ?_
  refine xV_icmp_geN e_X2_month_39 (by omega) (by omega) (fun h39 => ?_) (fun h39 => ?_)
  · obtain rfl : k = m := by omega
    refine xV_aload_n e_X2_month_101 rfl ?_
    refine xV_getR e_X2_month_102 f_X2_27 (by assumption) (by assumption) ?_
    refine xV_getI e_X2_month_105 f_X2_80 (by assumption) ?_
    rw [pm_0]
    exact xV_ireturn e_X2_month_108 rfl rfl ⟨_, rfl, rfl, rfl, rfl, Scr.trial⟩
  · refine xV_iconst (v := (nI 0)) e_X2_month_42 (by decide) ?_
    refine xV_istore e_X2_month_43 (Nat.le_of_ble_eq_true rfl) rfl ?_
    refine P_X2_month_45 (I := I) (m := m) (d := k) (X := X) hX rfl (hkX.keep (keep_mD mo t X k)) ?_ 0 (Nat.zero_le _)
    exact ih (by omega) _
set_option maxHeartbeats 4000000 in
set_option maxRecDepth 100000 in
theorem C_X2_monthOk {x : Nat} (hX : XS G T R x) {mo m : Nat} {t : Int32} (hk : MOK mo (mS I (x + 9))) (h1m : 1 ≤ m) (hm : m ≤ 30) (ht0 : ¬ t < 0) (ht1 : t ≤ nI 10) : xCon G Y_X2_month [.ref x, .int (nI m), .int t] T R L I ((T, fun v R2 L2 I2 => ∃ r, v = some (.int r) ∧ (r = (mD mo t (mS I (x + 9), L x 13) m).1.1 10 ∧ R2 = R ∧ L2 = xsl L x 13 (mD mo t (mS I (x + 9), L x 13) m).2 ∧ Scr x I I2))) := by
  obtain ⟨x0, xt, xts, xr, hrd, xn, hn, xtr, htr, xs, xss, xp, xps, xq, xqs, xqr, xqm, xc, xcs, xo, xos, hpool⟩ := id hX
  obtain ⟨n0, nr0, nr1, nr2, nr3, nr4, ns1, ns2, ns3, ns4, ns5⟩ := id hn
  have t0 := htr.1
  have d0 := hrd.1
  refine xCon.mk (xl := [some (.ref x), some (.int (nI m)), some (.int t), none, none]) (by decide +kernel) (xle_r _) rfl (Nat.le_of_ble_eq_true rfl) rfl ?_
  refine xV_iload_n e_X2_month_0 rfl ?_
  refine xV_iconst (v := (nI 1)) e_X2_month_1 (by decide) ?_
  refine xV_icmp_ltN e_X2_month_2 (by omega) (by omega) (fun h2 => ?_) (fun h2 => ?_)
  · exact absurd h2 (by omega)
  · refine xV_iload_n e_X2_month_5 rfl ?_
    refine xV_bipush (v := (nI 30)) e_X2_month_6 (by decide) ?_
    refine xV_icmp_gtN e_X2_month_8 (by omega) (by omega) (fun h8 => ?_) (fun h8 => ?_)
    · exact absurd h8 (by omega)
    · refine xV_iload_n e_X2_month_11 rfl ?_
      refine xV_if_lt e_X2_month_12 (fun h12 => ?_) (fun h12 => ?_)
      · exact absurd h12 ht0
      · refine xV_iload_n e_X2_month_15 rfl ?_
        refine xV_bipush (v := (nI 10)) e_X2_month_16 (by decide) ?_
        refine xV_icmp_le e_X2_month_18 (fun h18 => ?_) (fun h18 => ?_)
        · refine xV_aload_n e_X2_month_24 rfl ?_
          refine xV_getR e_X2_month_25 f_X2_27 (by assumption) (by assumption) ?_
          refine xV_aload_n e_X2_month_28 rfl ?_
          refine xV_getR e_X2_month_29 f_X2_23 (by assumption) (by assumption) ?_
          refine xV_cV1v e_X2_month_32 c_X2_61 (by assumption) (C_X0_take htr hn (by omega)) (Nat.le_of_ble_eq_true rfl) ⟨(Nat.le_of_ble_eq_true rfl), (Nat.le_of_ble_eq_true rfl)⟩ (xle_r _) (xle_r _) ?_
          refine xV_iconst (v := (nI 0)) e_X2_month_35 (by decide) ?_
          refine xV_istore_n e_X2_month_36 (Nat.le_of_ble_eq_true rfl) rfl ?_
          have q := P_X2_month_37 (L := L) (I := I) (t := t) (X := ((mS I (x + 9)), L x 13)) hX hm hk 0 (Nat.zero_le _) none
          rw [mD, xsl_own] at q
          exact q
        · exact absurd ht1 h18
set_option maxHeartbeats 4000000 in
set_option maxRecDepth 100000 in
theorem C_X2_monthBad {x : Nat} (hX : XS G T R x) {m t : Int32} (hb : m < nI 1 ∨ nI 30 < m ∨ t < 0 ∨ ¬ t ≤ nI 10) : xCon G Y_X2_month [.ref x, .int m, .int t] T R L I (xD (some (.int (-2))) T R L I) := by
  obtain ⟨x0, xt, xts, xr, hrd, xn, hn, xtr, htr, xs, xss, xp, xps, xq, xqs, xqr, xqm, xc, xcs, xo, xos, hpool⟩ := id hX
  obtain ⟨n0, nr0, nr1, nr2, nr3, nr4, ns1, ns2, ns3, ns4, ns5⟩ := id hn
  have t0 := htr.1
  have d0 := hrd.1
  refine xCon.mk (xl := [some (.ref x), some (.int m), some (.int t), none, none]) (by decide +kernel) (xle_r _) rfl (Nat.le_of_ble_eq_true rfl) rfl ?_
  refine xV_iload_n e_X2_month_0 rfl ?_
  refine xV_iconst (v := (nI 1)) e_X2_month_1 (by decide) ?_
  refine xV_icmp_lt e_X2_month_2 (fun h2 => ?_) (fun h2 => ?_)
  · refine xV_bipush (v := (-2)) e_X2_month_21 (by decide) ?_
    exact xV_ireturn e_X2_month_23 rfl rfl ⟨rfl, rfl, rfl, rfl⟩
  · refine xV_iload_n e_X2_month_5 rfl ?_
    refine xV_bipush (v := (nI 30)) e_X2_month_6 (by decide) ?_
    refine xV_icmp_gt e_X2_month_8 (fun h8 => ?_) (fun h8 => ?_)
    · refine xV_bipush (v := (-2)) e_X2_month_21 (by decide) ?_
      exact xV_ireturn e_X2_month_23 rfl rfl ⟨rfl, rfl, rfl, rfl⟩
    · refine xV_iload_n e_X2_month_11 rfl ?_
      refine xV_if_lt e_X2_month_12 (fun h12 => ?_) (fun h12 => ?_)
      · refine xV_bipush (v := (-2)) e_X2_month_21 (by decide) ?_
        exact xV_ireturn e_X2_month_23 rfl rfl ⟨rfl, rfl, rfl, rfl⟩
      · refine xV_iload_n e_X2_month_15 rfl ?_
        refine xV_bipush (v := (nI 10)) e_X2_month_16 (by decide) ?_
        refine xV_icmp_le e_X2_month_18 (fun h18 => ?_) (fun h18 => ?_)
        · exact absurd h18 (((hb.resolve_left h2).resolve_left h8).resolve_left h12)
        · refine xV_bipush (v := (-2)) e_X2_month_21 (by decide) ?_
          exact xV_ireturn e_X2_month_23 rfl rfl ⟨rfl, rfl, rfl, rfl⟩
end XPW
