/-! PRAYERTAILINGS: psalm, best, oaths, down, silent, chance, month -/
section XPU
variable {G : xG} {T : xT} {R : xR} {L : xL} {I : xI}
theorem bk_cong {mo : Nat} {b0 : Int32} {g g' : Nat → Int32} : ∀ (n i : Nat) (S : xS), (∀ c, i ≤ c → c < i + n → g c = g' c) → bk mo b0 g n i S = bk mo b0 g' n i S := by
  intro n
  induction n with
  | zero => intro i S h; rfl
  | succ n ih =>
    intro i S h
    rw [bk, bk, h i (Nat.le_refl _) (by omega), ih (i + 1) _ (fun c h1 h2 => h c (by omega) (by omega))]
/-- what a song of n prayers does to the mine as it is, whatever the scratch cells hold -/
theorem C_X2_breakOfS {x mo n : Nat} {J : xI} {g : Nat → Int32} (hX : XS G T R x) (hn8 : n ≤ 8) (hk : MOK mo (mS I (x + 9))) (hJ : Scr x I J) (hg : ∀ c, c < n → J (x + 21) c = g c) : xCon G Y_X2_breakOf [.ref x, .int (nI n)] T R L J (xD (some (.int (bk mo (I (x + 9) 8) g n 0 (mS I (x + 9))).1)) T R L (pm J (x + 15) (bk mo (I (x + 9) 8) g n 0 (mS I (x + 9))).2)) := by
  have e := hJ.now
  have q := C_X2_breakOf (L := L) (I := J) (mo := mo) hX hn8 (by rw [e]; exact hk)
  rw [e, hJ (x + 9) (by unfold scr; omega), bk_cong (g' := g) n 0 _ (fun c _ h => hg c (by omega))] at q
  exact q
-- psalm
def sgR (g : Nat → Int32) (n r k : Nat) : Nat → Int32 := fun c => if c < n ∧ n - 1 - c < k then nI (r / 10 ^ (n - 1 - c) % 10) else g c
theorem sgR_0 {g : Nat → Int32} {n r : Nat} : sgR g n r 0 = g := by funext c; simp [sgR]
theorem sgR_s {g : Nat → Int32} {n r k : Nat} (hk : k < n) : upd (sgR g n r k) (n - 1 - k) (nI (r / 10 ^ k % 10)) = sgR g n r (k + 1) := by
  funext c
  by_cases e : c = n - 1 - k
  · subst e
    have e1 : n - 1 - (n - 1 - k) = k := by omega
    simp [sgR, upd, e1, show n - 1 - k < n by omega]
  · have : (c < n ∧ n - 1 - c < k + 1) ↔ (c < n ∧ n - 1 - c < k) := by omega
    simp [sgR, upd, e, this]
theorem sgR_e {g : Nat → Int32} {n r c : Nat} (h : c < n) : sgR g n r n c = nI (r / 10 ^ (n - 1 - c) % 10) := by
  unfold sgR
  rw [if_pos ⟨h, by omega⟩]
def qPsalm (mo : Nat) (S : xS) (n r : Nat) : Int32 := if r / 10 ^ n = 0 then (bk mo (S.1 8) (fun c => nI (r / 10 ^ (n - 1 - c) % 10)) n 0 S).1 else (-2)
set_option maxHeartbeats 4000000 in
set_option maxRecDepth 100000 in
theorem P_X2_psalm_25 {x : Nat} (hX : XS G T R x) {mo n ro : Nat} (hk : MOK mo (mS I (x + 9))) (hn8 : n ≤ 8) (hr : ro < 2 ^ 31) : ∀ k, k ≤ n → xV G Y_X2_psalm T ((T, fun v R2 L2 I2 => ∃ r, v = some (.int r) ∧ (r = qPsalm mo (mS I (x + 9)) n ro ∧ R2 = R ∧ L2 = L ∧ Scr x I I2))) 25 [some (.ref x), some (.int (nI n)), some (.int (nI ro)), some (.int (nI (ro / 10 ^ k))), some (.int (lf (n - k)))] [] T R L (va_up I (x + 21) (sgR (I (x + 21)) n ro k)) := by
  obtain ⟨x0, xt, xts, xr, hrd, xn, hn, xtr, htr, xs, xss, xp, xps, xq, xqs, xqr, xqm, xc, xcs, xo, xos, hpool⟩ := id hX
  obtain ⟨n0, nr0, nr1, nr2, nr3, nr4, ns1, ns2, ns3, ns4, ns5⟩ := id hn
  have t0 := htr.1
  have d0 := hrd.1
  refine xloop (n) (fun k hk0 ih => ?_)
  have hcase : (k = n ∧ lf (n - k) < 0) ∨ (k < n ∧ lf (n - k) = nI (n - k - 1)) := by
    by_cases e : k = n
    · exact Or.inl ⟨e, by rw [e, Nat.sub_self]; exact lf_0⟩
    · refine Or.inr ⟨by omega, ?_⟩
      rw [show n - k = (n - k - 1) + 1 by omega, lf_s]
      rfl
  have hrk : ro / 10 ^ k < 2 ^ 31 := Nat.lt_of_le_of_lt (Nat.div_le_self _ _) hr
  refine xV_iload e_X2_psalm_25 rfl ?_
  refine xV_if_lt e_X2_psalm_27 (fun h27 => ?_) (fun h27 => ?_)
  · have hkn : k = n := by
      rcases hcase with z | z
      · exact z.1
      · rw [z.2] at h27
        exact absurd h27 (nI_pos (by omega))
    subst hkn
    refine xV_iload_n e_X2_psalm_54 rfl ?_
    refine xV_if_eq e_X2_psalm_55 (fun h55 => ?_) (fun h55 => ?_)
    · refine xV_aload_n e_X2_psalm_63 rfl ?_
      refine xV_iload_n e_X2_psalm_64 rfl ?_
      refine xV_cV1i e_X2_psalm_65 c_X2_165 (by assumption) (C_X2_breakOfS (I := I) (g := fun c => nI (ro / 10 ^ (k - 1 - c) % 10)) hX hn8 hk Scr.song (fun c hc => by rw [va_up_s, sgR_e hc])) (Nat.le_of_ble_eq_true rfl) ⟨(Nat.le_of_ble_eq_true rfl), (Nat.le_of_ble_eq_true rfl)⟩ (xle_r _) (xle_r _) ?_
      exact xV_ireturn e_X2_psalm_68 rfl rfl ⟨_, rfl, by rw [qPsalm, if_pos (by have := (nI_eq hrk (by decide)).mp (h55.trans nI_0.symm); exact this)]; rfl, rfl, rfl, Scr.tr Scr.song Scr.trial⟩
    · refine xV_bipush (v := (-2)) e_X2_psalm_58 (by decide) ?_
      refine xV_goto e_X2_psalm_60 ?_
      exact xV_ireturn e_X2_psalm_68 rfl rfl ⟨_, rfl, by rw [qPsalm, if_neg (fun z => h55 (by rw [z]; rfl))], rfl, rfl, Scr.song⟩
  · have hkn : k < n ∧ lf (n - k) = nI (n - k - 1) := by
      rcases hcase with z | z
      · exact absurd z.2 h27
      · exact z
    rw [hkn.2]
    have hlt := hkn.1
    refine xV_aload_n e_X2_psalm_30 rfl ?_
    refine xV_getR e_X2_psalm_31 f_X2_30 (by assumption) (by assumption) ?_
    refine xV_iload e_X2_psalm_34 rfl ?_
    refine xV_iload_n e_X2_psalm_36 rfl ?_
    refine xV_bipush (v := (nI 10)) e_X2_psalm_37 (by decide) ?_
    refine xV_irem e_X2_psalm_39 (by first | assumption | decide) ?_
    rw [pk_rem hrk (by decide) (by decide)]
    refine xV_cS3v e_X2_psalm_40 c_X2_50 (C_X2_putN xss (by omega) (by omega)) (Nat.le_of_ble_eq_true rfl) ⟨(Nat.le_of_ble_eq_true rfl), (Nat.le_of_ble_eq_true rfl)⟩ (xle_r _) (xle_r _) ?_
    refine xV_iload_n e_X2_psalm_43 rfl ?_
    refine xV_bipush (v := (nI 10)) e_X2_psalm_44 (by decide) ?_
    refine xV_idiv e_X2_psalm_46 (by first | assumption | decide) ?_
    rw [pk_div hrk (by decide) (by decide), Nat.div_div_eq_div_mul, ← Nat.pow_succ]
    refine xV_istore_n e_X2_psalm_47 (Nat.le_of_ble_eq_true rfl) rfl ?_
    refine xV_iinc e_X2_psalm_48 rfl rfl rfl ?_
    refine xV_goto e_X2_psalm_51 ?_
    have e5 : nI (n - k - 1) + Int32.ofInt (-1) = lf (n - (k + 1)) := by rw [lf_m, Nat.sub_sub]
    have e6 : xst (va_up I (x + 21) (sgR (I (x + 21)) n ro k)) (x + 21) (n - k - 1) (nI (ro / 10 ^ k % 10)) = va_up I (x + 21) (sgR (I (x + 21)) n ro (k + 1)) := by unfold xst; rw [va_up_s, va_up_up, show n - k - 1 = n - 1 - k by omega, sgR_s hlt]
    rw [e5, e6]
    exact ih (by omega)
set_option maxHeartbeats 4000000 in
set_option maxRecDepth 100000 in
theorem C_X2_psalmOk {x : Nat} (hX : XS G T R x) {mo n ro : Nat} (hk : MOK mo (mS I (x + 9))) (h1n : 1 ≤ n) (hn8 : n ≤ 8) (hr : ro < 2 ^ 31) : xCon G Y_X2_psalm [.ref x, .int (nI n), .int (nI ro)] T R L I ((T, fun v R2 L2 I2 => ∃ r, v = some (.int r) ∧ (r = qPsalm mo (mS I (x + 9)) n ro ∧ R2 = R ∧ L2 = L ∧ Scr x I I2))) := by
  obtain ⟨x0, xt, xts, xr, hrd, xn, hn, xtr, htr, xs, xss, xp, xps, xq, xqs, xqr, xqm, xc, xcs, xo, xos, hpool⟩ := id hX
  obtain ⟨n0, nr0, nr1, nr2, nr3, nr4, ns1, ns2, ns3, ns4, ns5⟩ := id hn
  have t0 := htr.1
  have d0 := hrd.1
  refine xCon.mk (xl := [some (.ref x), some (.int (nI n)), some (.int (nI ro)), none, none]) (by decide +kernel) (xle_r _) rfl (Nat.le_of_ble_eq_true rfl) rfl ?_
  refine xV_iload_n e_X2_psalm_0 rfl ?_
  refine xV_iconst (v := (nI 1)) e_X2_psalm_1 (by decide) ?_
  refine xV_icmp_ltN e_X2_psalm_2 (by omega) (by omega) (fun h2 => ?_) (fun h2 => ?_)
  · exact absurd h2 (by omega)
  · refine xV_iload_n e_X2_psalm_5 rfl ?_
    refine xV_bipush (v := (nI 8)) e_X2_psalm_6 (by decide) ?_
    refine xV_icmp_gtN e_X2_psalm_8 (by omega) (by omega) (fun h8 => ?_) (fun h8 => ?_)
    · exact absurd h8 (by omega)
    · refine xV_iload_n e_X2_psalm_11 rfl ?_
      refine xV_if_ge e_X2_psalm_12 (fun h12 => ?_) (fun h12 => ?_)
      · refine xV_iload_n e_X2_psalm_18 rfl ?_
        refine xV_istore_n e_X2_psalm_19 (Nat.le_of_ble_eq_true rfl) rfl ?_
        refine xV_iload_n e_X2_psalm_20 rfl ?_
        refine xV_iconst (v := (nI 1)) e_X2_psalm_21 (by decide) ?_
        refine xV_isub e_X2_psalm_22 ?_
        refine xV_istore e_X2_psalm_23 (Nat.le_of_ble_eq_true rfl) rfl ?_
        have q := P_X2_psalm_25 (L := L) (I := I) hX hk hn8 hr 0 (Nat.zero_le _)
        rw [sgR_0, va_up_own, Nat.pow_zero, Nat.div_one] at q
        exact xV_sub (xl' := [some (.ref x), some (.int (nI n)), some (.int (nI ro)), some (.int (nI ro)), some (.int (nI n - nI 1))]) ⟨rfl, rfl, rfl, rfl, rfl, trivial⟩ q
      · exact absurd (nI_pos' hr) h12
set_option maxHeartbeats 4000000 in
set_option maxRecDepth 100000 in
theorem C_X2_psalmBad {x : Nat} (hX : XS G T R x) {n ro : Int32} (hb : n < nI 1 ∨ nI 8 < n ∨ ro < 0) : xCon G Y_X2_psalm [.ref x, .int n, .int ro] T R L I (xD (some (.int (-2))) T R L I) := by
  obtain ⟨x0, xt, xts, xr, hrd, xn, hn, xtr, htr, xs, xss, xp, xps, xq, xqs, xqr, xqm, xc, xcs, xo, xos, hpool⟩ := id hX
  obtain ⟨n0, nr0, nr1, nr2, nr3, nr4, ns1, ns2, ns3, ns4, ns5⟩ := id hn
  have t0 := htr.1
  have d0 := hrd.1
  refine xCon.mk (xl := [some (.ref x), some (.int n), some (.int ro), none, none]) (by decide +kernel) (xle_r _) rfl (Nat.le_of_ble_eq_true rfl) rfl ?_
  refine xV_iload_n e_X2_psalm_0 rfl ?_
  refine xV_iconst (v := (nI 1)) e_X2_psalm_1 (by decide) ?_
  refine xV_icmp_lt e_X2_psalm_2 (fun h2 => ?_) (fun h2 => ?_)
  · refine xV_bipush (v := (-2)) e_X2_psalm_15 (by decide) ?_
    exact xV_ireturn e_X2_psalm_17 rfl rfl ⟨rfl, rfl, rfl, rfl⟩
  · refine xV_iload_n e_X2_psalm_5 rfl ?_
    refine xV_bipush (v := (nI 8)) e_X2_psalm_6 (by decide) ?_
    refine xV_icmp_gt e_X2_psalm_8 (fun h8 => ?_) (fun h8 => ?_)
    · refine xV_bipush (v := (-2)) e_X2_psalm_15 (by decide) ?_
      exact xV_ireturn e_X2_psalm_17 rfl rfl ⟨rfl, rfl, rfl, rfl⟩
    · refine xV_iload_n e_X2_psalm_11 rfl ?_
      refine xV_if_ge e_X2_psalm_12 (fun h12 => ?_) (fun h12 => ?_)
      · exact absurd ((hb.resolve_left h2).resolve_left h8) (Int32.not_lt.mpr h12)
      · refine xV_bipush (v := (-2)) e_X2_psalm_15 (by decide) ?_
        exact xV_ireturn e_X2_psalm_17 rfl rfl ⟨rfl, rfl, rfl, rfl⟩
-- best
def bks (mo : Nat) (S : xS) (n : Nat) (code : Int32) : Int32 × xS := bk mo (S.1 8) (fun c => fig (nI n) code (nI c)) n 0 S
def bF (mo : Nat) (S : xS) (n : Nat) : Nat → Int32 × Int32
  | 0 => (-1, -9)
  | k + 1 => if (bks mo S n (nI k)).1 = -9 ∧ ¬ (bks mo S n (nI k)).2.1 10 ≤ (bF mo S n k).1 then ((bks mo S n (nI k)).2.1 10, nI k) else bF mo S n k
theorem bF_f {mo n k : Nat} {S : xS} (h : ¬ (bks mo S n (nI k)).1 = -9 ∨ (bks mo S n (nI k)).2.1 10 ≤ (bF mo S n k).1) : bF mo S n (k + 1) = bF mo S n k := by
  rw [bF, if_neg]
  rintro ⟨z1, z2⟩
  rcases h with h | h
  · exact h z1
  · exact z2 h
theorem bF_t {mo n k : Nat} {S : xS} (h : (bks mo S n (nI k)).1 = -9) (h2 : ¬ (bks mo S n (nI k)).2.1 10 ≤ (bF mo S n k).1) : bF mo S n (k + 1) = ((bks mo S n (nI k)).2.1 10, nI k) := by
  rw [bF, if_pos ⟨h, h2⟩]
theorem p4_ok : ∀ n, n < 4 → nI 1 <<< (nI (2 * n) &&& 31) = nI (4 ^ n) := by decide +kernel
theorem p4_le : ∀ n, n < 4 → 4 ^ n ≤ 64 := by decide +kernel
def qBest (mo : Nat) (S : xS) (n : Nat) : Int32 := if (bF mo S n (4 ^ n)).2 = -9 then (-9) else (bks mo S n (bF mo S n (4 ^ n)).2).2.1 10 - S.1 10
def qBestAt (mo : Nat) (S : xS) (n : Nat) (i : Int32) : Int32 := if i < 0 then (-9) else if i < nI n then (if (bF mo S n (4 ^ n)).2 = -9 then (-9) else fig (nI n) (bF mo S n (4 ^ n)).2 i) else (-9)
set_option maxHeartbeats 4000000 in
set_option maxRecDepth 100000 in
theorem P_X2_bestCode_8 {x : Nat} (hX : XS G T R x) {mo n : Nat} (hk : MOK mo (mS I (x + 9))) (hn3 : n ≤ 3) : ∀ k, k ≤ 4 ^ n → ∀ J, Scr x I J → xV G Y_X2_bestCode T ((T, fun v R2 L2 I2 => ∃ r, v = some (.int r) ∧ (r = (bF mo (mS I (x + 9)) n (4 ^ n)).2 ∧ R2 = R ∧ L2 = L ∧ Scr x I I2))) 8 [some (.ref x), some (.int (nI n)), some (.int (bF mo (mS I (x + 9)) n k).1), some (.int (bF mo (mS I (x + 9)) n k).2), some (.int (nI k))] [] T R L J := by
  obtain ⟨x0, xt, xts, xr, hrd, xn, hn, xtr, htr, xs, xss, xp, xps, xq, xqs, xqr, xqm, xc, xcs, xo, xos, hpool⟩ := id hX
  obtain ⟨n0, nr0, nr1, nr2, nr3, nr4, ns1, ns2, ns3, ns4, ns5⟩ := id hn
  have t0 := htr.1
  have d0 := hrd.1
  have h64 := p4_le n (by omega)
  refine xloop (4 ^ n) (fun k hk0 ih => ?_)
  intro J hJ
  refine xV_iload e_X2_bestCode_8 rfl ?_
  refine xV_iconst (v := (nI 1)) e_X2_bestCode_10 (by decide) ?_
  refine xV_iconst (v := (nI 2)) e_X2_bestCode_11 (by decide) ?_
  refine xV_iload_n e_X2_bestCode_12 rfl ?_
  refine xV_imulN e_X2_bestCode_13 ?_
  refine xV_ishl e_X2_bestCode_14 ?_
  rw [p4_ok n (by omega)]
  refine xV_icmp_geN e_X2_bestCode_15 (by omega) (by omega) (fun h15 => ?_) (fun h15 => ?_)
  · obtain rfl : k = 4 ^ n := by omega
    refine xV_iload_n e_X2_bestCode_63 rfl ?_
    exact xV_ireturn e_X2_bestCode_64 rfl rfl ⟨_, rfl, rfl, rfl, rfl, hJ⟩
  · refine xV_aload_n e_X2_bestCode_18 rfl ?_
    refine xV_iload_n e_X2_bestCode_19 rfl ?_
    refine xV_iload e_X2_bestCode_20 rfl ?_
    refine xV_cV2v e_X2_bestCode_22 c_X2_171 (by assumption) (C_X2_setSong hX (by omega)) (Nat.le_of_ble_eq_true rfl) ⟨(Nat.le_of_ble_eq_true rfl), (Nat.le_of_ble_eq_true rfl)⟩ (xle_r _) (xle_r _) ?_
    refine xV_aload_n e_X2_bestCode_25 rfl ?_
    refine xV_iload_n e_X2_bestCode_26 rfl ?_
    refine xV_cV1i e_X2_bestCode_27 c_X2_165 (by assumption) (C_X2_breakOfS (I := I) (g := fun c => fig (nI n) (nI k) (nI c)) hX (by omega) hk (hJ.tr Scr.song) (fun c hc => by rw [va_up_s]; unfold sgC; rw [if_pos hc])) (Nat.le_of_ble_eq_true rfl) ⟨(Nat.le_of_ble_eq_true rfl), (Nat.le_of_ble_eq_true rfl)⟩ (xle_r _) (xle_r _) ?_
    refine xV_bipush (v := (-9)) e_X2_bestCode_30 (by decide) ?_
    refine xV_icmp_ne e_X2_bestCode_32 (fun h32 => ?_) (fun h32 => ?_)
    · refine xV_iincN e_X2_bestCode_57 rfl rfl ?_
      refine xV_goto e_X2_bestCode_60 ?_
      have q := ih (by omega)
      rw [bF_f (S := (mS I (x + 9))) (Or.inl h32)] at q
      exact q _ ((hJ.tr Scr.song).tr Scr.trial)
    · refine xV_aload_n e_X2_bestCode_35 rfl ?_
      refine xV_getR e_X2_bestCode_36 f_X2_27 (by assumption) (by assumption) ?_
      refine xV_getI e_X2_bestCode_39 f_X2_80 (by assumption) ?_
      rw [pm_0]
      refine xV_iload_n e_X2_bestCode_42 rfl ?_
      refine xV_icmp_le e_X2_bestCode_43 (fun h43 => ?_) (fun h43 => ?_)
      · refine xV_iincN e_X2_bestCode_57 rfl rfl ?_
        refine xV_goto e_X2_bestCode_60 ?_
        have q := ih (by omega)
        rw [bF_f (S := (mS I (x + 9))) (Or.inr h43)] at q
        exact q _ ((hJ.tr Scr.song).tr Scr.trial)
      · refine xV_aload_n e_X2_bestCode_46 rfl ?_
        refine xV_getR e_X2_bestCode_47 f_X2_27 (by assumption) (by assumption) ?_
        refine xV_getI e_X2_bestCode_50 f_X2_80 (by assumption) ?_
        rw [pm_0]
        refine xV_istore_n e_X2_bestCode_53 (Nat.le_of_ble_eq_true rfl) rfl ?_
        refine xV_iload e_X2_bestCode_54 rfl ?_
        refine xV_istore_n e_X2_bestCode_56 (Nat.le_of_ble_eq_true rfl) rfl ?_
        refine xV_iincN e_X2_bestCode_57 rfl rfl ?_
        refine xV_goto e_X2_bestCode_60 ?_
        have q := ih (by omega)
        rw [bF_t (S := (mS I (x + 9))) h32 h43] at q
        exact q _ ((hJ.tr Scr.song).tr Scr.trial)
set_option maxHeartbeats 4000000 in
set_option maxRecDepth 100000 in
theorem C_X2_bestCode {x : Nat} (hX : XS G T R x) {mo n : Nat} {J : xI} (hk : MOK mo (mS I (x + 9))) (hn3 : n ≤ 3) (hJ : Scr x I J) : xCon G Y_X2_bestCode [.ref x, .int (nI n)] T R L J ((T, fun v R2 L2 I2 => ∃ r, v = some (.int r) ∧ (r = (bF mo (mS I (x + 9)) n (4 ^ n)).2 ∧ R2 = R ∧ L2 = L ∧ Scr x I I2))) := by
  obtain ⟨x0, xt, xts, xr, hrd, xn, hn, xtr, htr, xs, xss, xp, xps, xq, xqs, xqr, xqm, xc, xcs, xo, xos, hpool⟩ := id hX
  obtain ⟨n0, nr0, nr1, nr2, nr3, nr4, ns1, ns2, ns3, ns4, ns5⟩ := id hn
  have t0 := htr.1
  have d0 := hrd.1
  refine xCon.mk (xl := [some (.ref x), some (.int (nI n)), none, none, none]) (by decide +kernel) (xle_r _) rfl (Nat.le_of_ble_eq_true rfl) rfl ?_
  refine xV_iconst (v := (-1)) e_X2_bestCode_0 (by decide) ?_
  refine xV_istore_n e_X2_bestCode_1 (Nat.le_of_ble_eq_true rfl) rfl ?_
  refine xV_bipush (v := (-9)) e_X2_bestCode_2 (by decide) ?_
  refine xV_istore_n e_X2_bestCode_4 (Nat.le_of_ble_eq_true rfl) rfl ?_
  refine xV_iconst (v := (nI 0)) e_X2_bestCode_5 (by decide) ?_
  refine xV_istore e_X2_bestCode_6 (Nat.le_of_ble_eq_true rfl) rfl ?_
  exact P_X2_bestCode_8 hX hk hn3 0 (Nat.zero_le _) J hJ
set_option maxHeartbeats 4000000 in
set_option maxRecDepth 100000 in
theorem C_X2_bestOk {x : Nat} (hX : XS G T R x) {mo n : Nat} (hk : MOK mo (mS I (x + 9))) (h1n : 1 ≤ n) (hn3 : n ≤ 3) : xCon G Y_X2_best [.ref x, .int (nI n)] T R L I ((T, fun v R2 L2 I2 => ∃ r, v = some (.int r) ∧ (r = qBest mo (mS I (x + 9)) n ∧ R2 = R ∧ L2 = L ∧ Scr x I I2))) := by
  obtain ⟨x0, xt, xts, xr, hrd, xn, hn, xtr, htr, xs, xss, xp, xps, xq, xqs, xqr, xqm, xc, xcs, xo, xos, hpool⟩ := id hX
  obtain ⟨n0, nr0, nr1, nr2, nr3, nr4, ns1, ns2, ns3, ns4, ns5⟩ := id hn
  have t0 := htr.1
  have d0 := hrd.1
  refine xCon.mk (xl := [some (.ref x), some (.int (nI n)), none]) (by decide +kernel) (xle_r _) rfl (Nat.le_of_ble_eq_true rfl) rfl ?_
  refine xV_iload_n e_X2_best_0 rfl ?_
  refine xV_iconst (v := (nI 1)) e_X2_best_1 (by decide) ?_
  refine xV_icmp_ltN e_X2_best_2 (by omega) (by omega) (fun h2 => ?_) (fun h2 => ?_)
  · exact absurd h2 (by omega)
  · refine xV_iload_n e_X2_best_5 rfl ?_
    refine xV_iconst (v := (nI 3)) e_X2_best_6 (by decide) ?_
    refine xV_icmp_leN e_X2_best_7 (by omega) (by omega) (fun h7 => ?_) (fun h7 => ?_)
    · refine xV_aload_n e_X2_best_13 rfl ?_
      refine xV_iload_n e_X2_best_14 rfl ?_
      refine xV_cV1iP e_X2_best_15 c_X2_168 (by assumption) (C_X2_bestCode (I := I) hX hk hn3 Scr.rf) (Nat.le_of_ble_eq_true rfl) ⟨(Nat.le_of_ble_eq_true rfl), (Nat.le_of_ble_eq_true rfl)⟩ (xle_r _) (xle_r _) (fun r2 R2 L2 J hq => ?_)
      obtain ⟨rfl, rfl, rfl, hJ⟩ := hq
      refine xV_istore_n e_X2_best_18 (Nat.le_of_ble_eq_true rfl) rfl ?_
      refine xV_iload_n e_X2_best_19 rfl ?_
      refine xV_bipush (v := (-9)) e_X2_best_20 (by decide) ?_
      refine xV_icmp_ne e_X2_best_22 (fun h22 => ?_) (fun h22 => ?_)
      · refine xV_aload_n e_X2_best_28 rfl ?_
        refine xV_iload_n e_X2_best_29 rfl ?_
        refine xV_iload_n e_X2_best_30 rfl ?_
        refine xV_cV2v e_X2_best_31 c_X2_171 (by assumption) (C_X2_setSong hX (by omega)) (Nat.le_of_ble_eq_true rfl) ⟨(Nat.le_of_ble_eq_true rfl), (Nat.le_of_ble_eq_true rfl)⟩ (xle_r _) (xle_r _) ?_
        refine xV_aload_n e_X2_best_34 rfl ?_
        refine xV_iload_n e_X2_best_35 rfl ?_
        refine xV_cV1i e_X2_best_36 c_X2_165 (by assumption) (C_X2_breakOfS (I := I) (g := fun c => fig (nI n) (bF mo (mS I (x + 9)) n (4 ^ n)).2 (nI c)) hX (by omega) hk (hJ.tr Scr.song) (fun c hc => by rw [va_up_s]; unfold sgC; rw [if_pos hc])) (Nat.le_of_ble_eq_true rfl) ⟨(Nat.le_of_ble_eq_true rfl), (Nat.le_of_ble_eq_true rfl)⟩ (xle_r _) (xle_r _) ?_
        refine xV_pop e_X2_best_39 rfl ?_
        refine xV_aload_n e_X2_best_40 rfl ?_
        refine xV_getR e_X2_best_41 f_X2_27 (by assumption) (by assumption) ?_
        refine xV_getI e_X2_best_44 f_X2_80 (by assumption) ?_
        rw [pm_0]
        refine xV_aload_n e_X2_best_47 rfl ?_
        refine xV_getR e_X2_best_48 f_X2_23 (by assumption) (by assumption) ?_
        refine xV_getI e_X2_best_51 f_X2_80 (by assumption) ?_
        rw [pm_o (by omega), va_up_n (by omega), hJ (x + 9) (by unfold scr; omega)]
        refine xV_isub e_X2_best_54 ?_
        exact xV_ireturn e_X2_best_55 rfl rfl ⟨_, rfl, by rw [qBest, if_neg h22]; rfl, rfl, rfl, (hJ.tr Scr.song).tr Scr.trial⟩
      · refine xV_bipush (v := (-9)) e_X2_best_25 (by decide) ?_
        exact xV_ireturn e_X2_best_27 rfl rfl ⟨_, rfl, by rw [qBest, if_pos h22], rfl, rfl, hJ⟩
    · exact absurd h7 (by omega)
set_option maxHeartbeats 4000000 in
set_option maxRecDepth 100000 in
theorem C_X2_bestBad {x : Nat} (hX : XS G T R x) {n : Int32} (hb : n < nI 1 ∨ ¬ n ≤ nI 3) : xCon G Y_X2_best [.ref x, .int n] T R L I (xD (some (.int (-2))) T R L I) := by
  obtain ⟨x0, xt, xts, xr, hrd, xn, hn, xtr, htr, xs, xss, xp, xps, xq, xqs, xqr, xqm, xc, xcs, xo, xos, hpool⟩ := id hX
  obtain ⟨n0, nr0, nr1, nr2, nr3, nr4, ns1, ns2, ns3, ns4, ns5⟩ := id hn
  have t0 := htr.1
  have d0 := hrd.1
  refine xCon.mk (xl := [some (.ref x), some (.int n), none]) (by decide +kernel) (xle_r _) rfl (Nat.le_of_ble_eq_true rfl) rfl ?_
  refine xV_iload_n e_X2_best_0 rfl ?_
  refine xV_iconst (v := (nI 1)) e_X2_best_1 (by decide) ?_
  refine xV_icmp_lt e_X2_best_2 (fun h2 => ?_) (fun h2 => ?_)
  · refine xV_bipush (v := (-2)) e_X2_best_10 (by decide) ?_
    exact xV_ireturn e_X2_best_12 rfl rfl ⟨rfl, rfl, rfl, rfl⟩
  · refine xV_iload_n e_X2_best_5 rfl ?_
    refine xV_iconst (v := (nI 3)) e_X2_best_6 (by decide) ?_
    refine xV_icmp_le e_X2_best_7 (fun h7 => ?_) (fun h7 => ?_)
    · exact absurd h7 (hb.resolve_left h2)
    · refine xV_bipush (v := (-2)) e_X2_best_10 (by decide) ?_
      exact xV_ireturn e_X2_best_12 rfl rfl ⟨rfl, rfl, rfl, rfl⟩
set_option maxHeartbeats 4000000 in
set_option maxRecDepth 100000 in
theorem C_X2_bestAtOk {x : Nat} (hX : XS G T R x) {mo n : Nat} {i : Int32} (hk : MOK mo (mS I (x + 9))) (h1n : 1 ≤ n) (hn3 : n ≤ 3) : xCon G Y_X2_bestAt [.ref x, .int (nI n), .int i] T R L I ((T, fun v R2 L2 I2 => ∃ r, v = some (.int r) ∧ (r = qBestAt mo (mS I (x + 9)) n i ∧ R2 = R ∧ L2 = L ∧ Scr x I I2))) := by
  obtain ⟨x0, xt, xts, xr, hrd, xn, hn, xtr, htr, xs, xss, xp, xps, xq, xqs, xqr, xqm, xc, xcs, xo, xos, hpool⟩ := id hX
  obtain ⟨n0, nr0, nr1, nr2, nr3, nr4, ns1, ns2, ns3, ns4, ns5⟩ := id hn
  have t0 := htr.1
  have d0 := hrd.1
  refine xCon.mk (xl := [some (.ref x), some (.int (nI n)), some (.int i), none]) (by decide +kernel) (xle_r _) rfl (Nat.le_of_ble_eq_true rfl) rfl ?_
  refine xV_iload_n e_X2_bestAt_0 rfl ?_
  refine xV_iconst (v := (nI 1)) e_X2_bestAt_1 (by decide) ?_
  refine xV_icmp_ltN e_X2_bestAt_2 (by omega) (by omega) (fun h2 => ?_) (fun h2 => ?_)
  · exact absurd h2 (by omega)
  · refine xV_iload_n e_X2_bestAt_5 rfl ?_
    refine xV_iconst (v := (nI 3)) e_X2_bestAt_6 (by decide) ?_
    refine xV_icmp_leN e_X2_bestAt_7 (by omega) (by omega) (fun h7 => ?_) (fun h7 => ?_)
    · refine xV_iload_n e_X2_bestAt_13 rfl ?_
      refine xV_if_lt e_X2_bestAt_14 (fun h14 => ?_) (fun h14 => ?_)
      · refine xV_bipush (v := (-9)) e_X2_bestAt_22 (by decide) ?_
        exact xV_ireturn e_X2_bestAt_24 rfl rfl ⟨_, rfl, by rw [qBestAt, if_pos h14], rfl, rfl, Scr.rf⟩
      · refine xV_iload_n e_X2_bestAt_17 rfl ?_
        refine xV_iload_n e_X2_bestAt_18 rfl ?_
        refine xV_icmp_lt e_X2_bestAt_19 (fun h19 => ?_) (fun h19 => ?_)
        · refine xV_aload_n e_X2_bestAt_25 rfl ?_
          refine xV_iload_n e_X2_bestAt_26 rfl ?_
          refine xV_cV1iP e_X2_bestAt_27 c_X2_168 (by assumption) (C_X2_bestCode (I := I) hX hk hn3 Scr.rf) (Nat.le_of_ble_eq_true rfl) ⟨(Nat.le_of_ble_eq_true rfl), (Nat.le_of_ble_eq_true rfl)⟩ (xle_r _) (xle_r _) (fun r2 R2 L2 J hq => ?_)
          obtain ⟨rfl, rfl, rfl, hJ⟩ := hq
          refine xV_istore_n e_X2_bestAt_30 (Nat.le_of_ble_eq_true rfl) rfl ?_
          refine xV_iload_n e_X2_bestAt_31 rfl ?_
          refine xV_bipush (v := (-9)) e_X2_bestAt_32 (by decide) ?_
          refine xV_icmp_ne e_X2_bestAt_34 (fun h34 => ?_) (fun h34 => ?_)
          · refine xV_iload_n e_X2_bestAt_42 rfl ?_
            refine xV_iload_n e_X2_bestAt_43 rfl ?_
            refine xV_iload_n e_X2_bestAt_44 rfl ?_
            refine xV_cS3i e_X2_bestAt_45 c_X2_175 (C_X2_figureOf) (Nat.le_of_ble_eq_true rfl) ⟨(Nat.le_of_ble_eq_true rfl), (Nat.le_of_ble_eq_true rfl)⟩ (xle_r _) (xle_r _) ?_
            exact xV_ireturn e_X2_bestAt_48 rfl rfl ⟨_, rfl, by rw [qBestAt, if_neg h14, if_pos h19, if_neg h34], rfl, rfl, hJ⟩
          · refine xV_bipush (v := (-9)) e_X2_bestAt_37 (by decide) ?_
            refine xV_goto e_X2_bestAt_39 ?_
            exact xV_ireturn e_X2_bestAt_48 rfl rfl ⟨_, rfl, by rw [qBestAt, if_neg h14, if_pos h19, if_pos h34], rfl, rfl, hJ⟩
        · refine xV_bipush (v := (-9)) e_X2_bestAt_22 (by decide) ?_
          exact xV_ireturn e_X2_bestAt_24 rfl rfl ⟨_, rfl, by rw [qBestAt, if_neg h14, if_neg h19], rfl, rfl, Scr.rf⟩
    · exact absurd h7 (by omega)
set_option maxHeartbeats 4000000 in
set_option maxRecDepth 100000 in
theorem C_X2_bestAtBad {x : Nat} (hX : XS G T R x) {n i : Int32} (hb : n < nI 1 ∨ ¬ n ≤ nI 3) : xCon G Y_X2_bestAt [.ref x, .int n, .int i] T R L I (xD (some (.int (-2))) T R L I) := by
  obtain ⟨x0, xt, xts, xr, hrd, xn, hn, xtr, htr, xs, xss, xp, xps, xq, xqs, xqr, xqm, xc, xcs, xo, xos, hpool⟩ := id hX
  obtain ⟨n0, nr0, nr1, nr2, nr3, nr4, ns1, ns2, ns3, ns4, ns5⟩ := id hn
  have t0 := htr.1
  have d0 := hrd.1
  refine xCon.mk (xl := [some (.ref x), some (.int n), some (.int i), none]) (by decide +kernel) (xle_r _) rfl (Nat.le_of_ble_eq_true rfl) rfl ?_
  refine xV_iload_n e_X2_bestAt_0 rfl ?_
  refine xV_iconst (v := (nI 1)) e_X2_bestAt_1 (by decide) ?_
  refine xV_icmp_lt e_X2_bestAt_2 (fun h2 => ?_) (fun h2 => ?_)
  · refine xV_bipush (v := (-2)) e_X2_bestAt_10 (by decide) ?_
    exact xV_ireturn e_X2_bestAt_12 rfl rfl ⟨rfl, rfl, rfl, rfl⟩
  · refine xV_iload_n e_X2_bestAt_5 rfl ?_
    refine xV_iconst (v := (nI 3)) e_X2_bestAt_6 (by decide) ?_
    refine xV_icmp_le e_X2_bestAt_7 (fun h7 => ?_) (fun h7 => ?_)
    · exact absurd h7 (hb.resolve_left h2)
    · refine xV_bipush (v := (-2)) e_X2_bestAt_10 (by decide) ?_
      exact xV_ireturn e_X2_bestAt_12 rfl rfl ⟨rfl, rfl, rfl, rfl⟩
end XPU
