/-! THE MODEL: silent, oaths -/
section XMI
variable {G : xG} {T : xT} {R : xR} {L : xL} {I : xI}
theorem xatN {n k : Nat} {w : Nat → Int32} (h : k < n) (hn : n < 2 ^ 31) : xat n w (nI k) = w k := by
  unfold xat bIn
  rw [if_pos (by rw [decide_eq_true (nI_pos' (by omega)), decide_eq_true (nI_lt h hn)]; rfl), nI_clamp (by omega)]
theorem p2_ok : ∀ mo, mo < 5 → nI 1 <<< (nI mo &&& 31) = nI (2 ^ mo) := by decide +kernel
theorem p2_le : ∀ mo, mo < 5 → 2 ^ mo ≤ 16 := by decide +kernel
theorem hs_sml : ∀ mo, mo < 5 → ∀ k, k < 2 ^ mo → ∀ j, j < 32 → hs (nI k) (nI j) = true → j < mo := by decide +kernel
theorem hs_big : ∀ mo, mo < 5 → ∀ k, k < 16 → (∀ j, j < 5 → hs (nI k) (nI j) = true → j < mo) → k < 2 ^ mo := by decide +kernel
theorem hs_m9 : hs (-9) (nI 31) = true := by decide +kernel
theorem and_liv {mo k : Nat} {se : Nat → Int32} {S : xS} (hB : GB mo se S) (hk : k < 2 ^ mo) : nI k &&& (vLiv S.1 ^^^ (-1)) = nI k &&& S.1 8 := by
  have hm4 := hB.1.2.1
  refine hs_ext fun j hj => ?_
  rw [hs_and hj, hs_and hj, hs_not hj, hs_liv hB.1.1 hm4 hj]
  cases z : hs (nI k) (nI j)
  · rfl
  · rw [decide_eq_true (hs_sml mo (by omega) k hk j hj z)]; simp
theorem and_liv2 {mo k : Nat} {se : Nat → Int32} {S : xS} (hB : GB mo se S) (hk : k < 16) (h : nI k &&& (vLiv S.1 ^^^ (-1)) = 0) : k < 2 ^ mo := by
  have hm4 := hB.1.2.1
  refine hs_big mo (by omega) k hk (fun j hj z => ?_)
  have q : hs (nI k &&& (vLiv S.1 ^^^ (-1))) (nI j) = false := by rw [h, hs_zz (by omega)]
  rw [hs_and (by omega), hs_not (by omega), hs_liv hB.1.1 hm4 (by omega), z] at q
  by_cases c : j < mo
  · exact c
  · rw [decide_eq_false c] at q; cases q
theorem sF_16 {mo seen : Nat} {se : Nat → Int32} {S : xS} {sc sl : Nat → Int32} (hB : GB mo se S) : ∀ n, 2 ^ mo ≤ n → n ≤ 16 → sF mo S sc sl seen n = sF mo S sc sl seen (2 ^ mo) := by
  intro n
  induction n with
  | zero => intro h _
            have := Nat.pow_pos (n := mo) (show 0 < 2 by decide)
            omega
  | succ n ih =>
    intro h h16
    by_cases e : 2 ^ mo = n + 1
    · rw [e]
    · rw [sF_f (Or.inl (fun z => by have := and_liv2 hB (by omega) z; omega)), ih (by omega) (by omega)]
/-- who surely prayed, as the Model tells it -/
def sM (mo : Nat) (S : xS) (sc sl : Nat → Int32) (seen k : Nat) : Int32 := if (sF mo S sc sl seen k).1 = 0 then (-9) else (sF mo S sc sl seen k).2
theorem sF_inv {mo seen : Nat} {se : Nat → Int32} {S : xS} {sc sl : Nat → Int32} (hB : GB mo se S) : ∀ k, ∃ j, j ≤ k ∧ (sF mo S sc sl seen k).1 = nI j ∧ (j = 0 → (sF mo S sc sl seen k).2 = vLiv S.1) ∧ ∀ i, i < 32 → hs (sF mo S sc sl seen k).2 (nI i) = true → i < mo := by
  intro k
  induction k with
  | zero => exact ⟨0, Nat.le_refl _, rfl, fun _ => rfl, fun i hi h => by
      have h : hs (vLiv S.1) (nI i) = true := h
      rw [hs_liv hB.1.1 hB.1.2.1 hi, Bool.and_eq_true] at h
      exact of_decide_eq_true h.1⟩
  | succ k ih =>
    obtain ⟨j, h1, h2, h3, h4⟩ := ih
    by_cases c : nI k &&& (vLiv S.1 ^^^ (-1)) = 0 ∧ bSil mo S sc sl seen (nI k) = true
    · rw [sF_t c.1 c.2]
      refine ⟨j + 1, by omega, by rw [h2, nI_add], fun z => absurd z (by omega), fun i hi h => h4 i hi ?_⟩
      rw [hs_and hi, Bool.and_eq_true] at h
      exact h.1
    · rw [sF, if_neg c]
      exact ⟨j, by omega, h2, h3, h4⟩
theorem sM_t {mo seen k : Nat} {se : Nat → Int32} {S : xS} {sc sl : Nat → Int32} (hB : GB mo se S) (hk : k < 16) (h : nI k &&& (vLiv S.1 ^^^ (-1)) = 0) (h2 : bSil mo S sc sl seen (nI k) = true) :
    (sM mo S sc sl seen k = -9 → sM mo S sc sl seen (k + 1) = nI k) ∧ (¬ sM mo S sc sl seen k = -9 → sM mo S sc sl seen (k + 1) = sM mo S sc sl seen k &&& nI k) := by
  obtain ⟨j, g1, g2, g3, g4⟩ := sF_inv (seen := seen) (sc := sc) (sl := sl) hB k
  have e : sM mo S sc sl seen (k + 1) = (sF mo S sc sl seen k).2 &&& nI k := by
    unfold sM
    rw [sF_t h h2, g2, nI_add]
    exact if_neg (nI_ne0 (by omega) (by omega))
  rw [e]
  by_cases c : j = 0
  · have e0 : sM mo S sc sl seen k = -9 := by unfold sM; rw [g2, c]; rfl
    refine ⟨fun _ => ?_, fun z => absurd e0 z⟩
    rw [g3 c]
    refine hs_ext fun i hi => ?_
    have q : hs (nI k &&& (vLiv S.1 ^^^ (-1))) (nI i) = false := by rw [h, hs_zz hi]
    rw [hs_and hi, hs_not hi] at q
    rw [hs_and hi]
    revert q
    cases hs (nI k) (nI i) <;> cases hs (vLiv S.1) (nI i) <;> simp
  · have e0 : sM mo S sc sl seen k = (sF mo S sc sl seen k).2 := by unfold sM; rw [g2]; exact if_neg (nI_ne0 (by omega) (by omega))
    rw [e0]
    refine ⟨fun z => ?_, fun _ => rfl⟩
    have q := g4 31 (by decide) (by rw [z]; exact hs_m9)
    have := hB.1.2.1
    omega
theorem sM_0 {mo seen : Nat} {S : xS} {sc sl : Nat → Int32} : sM mo S sc sl seen 0 = -9 := rfl
theorem sM_f {mo seen k : Nat} {S : xS} {sc sl : Nat → Int32} (h : ¬ nI k &&& (vLiv S.1 ^^^ (-1)) = 0 ∨ bSil mo S sc sl seen (nI k) = false) : sM mo S sc sl seen (k + 1) = sM mo S sc sl seen k := by unfold sM; rw [sF_f h]
theorem qSil_v {mo seen : Nat} {se : Nat → Int32} {S : xS} {sc sl : Nat → Int32} (hB : GB mo se S) {what : Int32} (hw : (decide (nI 0 ≤ what) && decide (what ≤ nI 1)) = true) :
    qSilent mo S sc sl seen what = if what = 0 then (sF mo S sc sl seen (2 ^ mo)).1 else sM mo S sc sl seen (2 ^ mo) := by
  have hm4 := hB.1.2.1
  have e := sF_16 (seen := seen) (sc := sc) (sl := sl) hB 16 (p2_le mo (by omega)) (Nat.le_refl _)
  unfold qSilent sM
  rw [e]
  obtain ⟨j, j1, j2, rfl⟩ := bL_j (by decide) (by decide) hw
  have : j = 0 ∨ j = 1 := by omega
  rcases this with rfl | rfl
  · rw [if_pos nI_0, if_pos nI_0]
  · have h10 : ¬ nI 1 = 0 := by decide
    rw [if_neg h10, if_pos rfl, if_neg h10]
theorem qSil_b {mo seen : Nat} {S : xS} {sc sl : Nat → Int32} {what : Int32} (hw : (decide (nI 0 ≤ what) && decide (what ≤ nI 1)) = false) : qSilent mo S sc sl seen what = -2 := by
  unfold qSilent
  rw [if_neg (fun z => by rw [z] at hw; revert hw; decide), if_neg (fun z => by rw [z] at hw; revert hw; decide)]
theorem sVal_N {S : xS} {c : Nat} (hc : c < 12) : sVal S (nI c) = if hs (S.1 9) (nI c) = true then nI 100 else S.2.2.1 c := by unfold sVal; rw [xatN hc (by decide)]
set_option maxHeartbeats 4000000 in
set_option maxRecDepth 100000 in
theorem P_X3_silent_70 {m mo : Nat} {S : xS} (hX : XM G T R m) {seen : Nat} (hsn : I m 19 = nI seen) (hs6 : seen ≤ 6) (hsc : ∀ k, k < seen → ∃ c, c < 12 ∧ I (m + 9) k = nI c) {P : Nat → Int32} (hp : PR mo S P) {what an su : Int32} {ks : Nat} {FF : Bool} {o : xO} (ho : o.1 = T)
    (hout : ∀ (ff : Bool) (j7 : Option Value), FF = ff → xV G Y_X3_silent T o 146 [some (.ref m), some (.int what), some (.int an), some (.int su), some (.int (nI ks)), some (.int (xb ff)), some (.int (nI seen)), j7] [] T R L (va_up I (m + 11) P)) :
    ∀ k, k ≤ seen → ∀ (ffl : Bool) (j7 : Option Value), FF = (ffl && sOk S (I (m + 9)) (I (m + 10)) (seen - k) k) → xV G Y_X3_silent T o 70 [some (.ref m), some (.int what), some (.int an), some (.int su), some (.int (nI ks)), some (.int (xb ffl)), some (.int (nI k)), j7] [] T R L (va_up I (m + 11) P) := by
  obtain ⟨m0, rt, st, rs, ss, rp, sp, rrp, srp, rrs, srs, rb, sb, rk, sk, ri, si, rc, sc, rv, sv, rr, sr⟩ := id hX
  obtain ⟨oT, oP⟩ := o
  subst ho
  refine xloop seen (fun k hk0 ih => ?_)
  intro ffl j7 hF
  refine xV_iload e_X3_silent_70 rfl ?_
  refine xV_aload_n e_X3_silent_72 rfl ?_
  refine xV_getO e_X3_silent_73 f_X3_111 m0 (by omega) ?_
  rw [hsn]
  refine xV_icmp_geN e_X3_silent_76 (by omega) (by omega) (fun h76 => ?_) (fun h76 => ?_)
  · obtain rfl : k = seen := by omega
    exact hout ffl j7 (by rw [hF, Nat.sub_self]; cases ffl <;> rfl)
  · refine xV_aload_n e_X3_silent_79 rfl ?_
    refine xV_getR e_X3_silent_80 f_X3_39 (by assumption) (by assumption) ?_
    refine xV_iload e_X3_silent_83 rfl ?_
    refine xV_ialdN e_X3_silent_85 (by first | exact xRow.vp (by assumption) | exact xRow.vo (by omega) (by assumption)) (by omega) (by omega) ?_
    obtain ⟨c, hc, ec⟩ := hsc k (by omega)
    rw [ec]
    refine xV_istore e_X3_silent_86 (Nat.le_of_ble_eq_true rfl) rfl ?_
    refine xV_iload e_X3_silent_88 rfl ?_
    refine xV_if_eqB e_X3_silent_90 (fun h90 => ?_) (fun h90 => ?_)
    · refine xV_iconst (v := (nI 0)) e_X3_silent_137 (by decide) ?_
      refine xV_istore e_X3_silent_138 (Nat.le_of_ble_eq_true rfl) rfl ?_
      refine xV_iincN e_X3_silent_140 rfl rfl ?_
      refine xV_goto e_X3_silent_143 ?_
      exact ih (by omega) false _ (by rw [hF]; subst h90; rfl)
    · refine xV_aload_n e_X3_silent_93 rfl ?_
      refine xV_getR e_X3_silent_94 f_X3_42 (by assumption) (by assumption) ?_
      refine xV_iload e_X3_silent_97 rfl ?_
      refine xV_ialdN e_X3_silent_99 (by first | exact xRow.vp (by assumption) | exact xRow.vo (by omega) (by assumption)) (by omega) (by omega) ?_
      refine xV_aload_n e_X3_silent_100 rfl ?_
      refine xV_getR e_X3_silent_101 f_X3_45 (by assumption) (by assumption) ?_
      refine xV_bipush (v := (nI 48)) e_X3_silent_104 (by decide) ?_
      refine xV_ialdN e_X3_silent_106 (by first | exact xRow.vp (by assumption) | exact xRow.vo (by omega) (by assumption)) (by omega) (by omega) ?_
      refine xV_iload e_X3_silent_107 rfl ?_
      refine xV_cS2i e_X3_silent_109 c_X3_70 (C_X3_hasH) (Nat.le_of_ble_eq_true rfl) ⟨(Nat.le_of_ble_eq_true rfl), (Nat.le_of_ble_eq_true rfl)⟩ (xle_r _) (xle_r _) ?_
      refine xV_if_eqB e_X3_silent_112 (fun h112 => ?_) (fun h112 => ?_)
      · refine xV_aload_n e_X3_silent_120 rfl ?_
        refine xV_getR e_X3_silent_121 f_X3_45 (by assumption) (by assumption) ?_
        refine xV_bipush (v := (nI 12)) e_X3_silent_124 (by decide) ?_
        refine xV_iload e_X3_silent_126 rfl ?_
        refine xV_iaddN e_X3_silent_128 ?_
        refine xV_ialdN e_X3_silent_129 (by first | exact xRow.vp (by assumption) | exact xRow.vo (by omega) (by assumption)) (by omega) (by omega) ?_
        refine xV_icmp_ne e_X3_silent_130 (fun h130 => ?_) (fun h130 => ?_)
        · refine xV_iconst (v := (nI 0)) e_X3_silent_137 (by decide) ?_
          refine xV_istore e_X3_silent_138 (Nat.le_of_ble_eq_true rfl) rfl ?_
          refine xV_iincN e_X3_silent_140 rfl rfl ?_
          refine xV_goto e_X3_silent_143 ?_
          exact ih (by omega) false _ (by rw [hF, h90, sOk_f (by omega) (by rw [ec, sVal_N hc, if_neg (bl_f (by rw [← hp.2.2.2.2.2.1]; exact h112)), ← hp.2.1 c hc]; exact fun z => h130 z.symm)]; rfl)
        · refine xV_iconst (v := (nI 1)) e_X3_silent_133 (by decide) ?_
          refine xV_goto e_X3_silent_134 ?_
          refine xV_istore e_X3_silent_138 (Nat.le_of_ble_eq_true rfl) rfl ?_
          refine xV_iincN e_X3_silent_140 rfl rfl ?_
          refine xV_goto e_X3_silent_143 ?_
          exact ih (by omega) true _ (by rw [hF, h90, sOk_t (by omega) (by rw [ec, sVal_N hc, if_neg (bl_f (by rw [← hp.2.2.2.2.2.1]; exact h112)), ← hp.2.1 c hc]; exact h130.symm)])
      · refine xV_bipush (v := (nI 100)) e_X3_silent_115 (by decide) ?_
        refine xV_goto e_X3_silent_117 ?_
        refine xV_icmp_ne e_X3_silent_130 (fun h130 => ?_) (fun h130 => ?_)
        · refine xV_iconst (v := (nI 0)) e_X3_silent_137 (by decide) ?_
          refine xV_istore e_X3_silent_138 (Nat.le_of_ble_eq_true rfl) rfl ?_
          refine xV_iincN e_X3_silent_140 rfl rfl ?_
          refine xV_goto e_X3_silent_143 ?_
          exact ih (by omega) false _ (by rw [hF, h90, sOk_f (by omega) (by rw [ec, sVal_N hc, if_pos (by rw [← hp.2.2.2.2.2.1]; exact h112)]; exact fun z => h130 z.symm)]; rfl)
        · refine xV_iconst (v := (nI 1)) e_X3_silent_133 (by decide) ?_
          refine xV_goto e_X3_silent_134 ?_
          refine xV_istore e_X3_silent_138 (Nat.le_of_ble_eq_true rfl) rfl ?_
          refine xV_iincN e_X3_silent_140 rfl rfl ?_
          refine xV_goto e_X3_silent_143 ?_
          exact ih (by omega) true _ (by rw [hF, h90, sOk_t (by omega) (by rw [ec, sVal_N hc, if_pos (by rw [← hp.2.2.2.2.2.1]; exact h112)]; exact h130.symm)])
set_option maxHeartbeats 4000000 in
set_option maxRecDepth 100000 in
theorem P_X3_silent_146 {m mo seen k : Nat} {se : Nat → Int32} {S : xS} {sc sl : Nat → Int32} {what : Int32} (hB : GB mo se S) (hk2 : k < 2 ^ mo) (hk16 : k < 16) (hz : nI k &&& (vLiv S.1 ^^^ (-1)) = 0) {ff : Bool} (hff : bSil mo S sc sl seen (nI k) = ff) {o : xO} (ho : o.1 = T) {J : xI} {j6 j7 : Option Value}
    (hn : ∀ j5 j6 j7 : Option Value, xV G Y_X3_silent T o 26 [some (.ref m), some (.int what), some (.int (sF mo S sc sl seen (k + 1)).1), some (.int (sM mo S sc sl seen (k + 1))), some (.int (nI (k + 1))), j5, j6, j7] [] T R L J) :
    xV G Y_X3_silent T o 146 [some (.ref m), some (.int what), some (.int (sF mo S sc sl seen k).1), some (.int (sM mo S sc sl seen k)), some (.int (nI k)), some (.int (xb ff)), j6, j7] [] T R L J := by
  obtain ⟨oT, oP⟩ := o
  subst ho
  refine xV_iload e_X3_silent_146 rfl ?_
  refine xV_if_eqB e_X3_silent_148 (fun h148 => ?_) (fun h148 => ?_)
  · refine xV_iincN e_X3_silent_170 rfl rfl ?_
    refine xV_goto e_X3_silent_173 ?_
    refine xV_sub (xl' := [some (.ref m), some (.int what), some (.int (sF mo S sc sl seen (k + 1)).1), some (.int (sM mo S sc sl seen (k + 1))), some (.int (nI (k + 1))), none, none, none]) ?_ (hn none none none)
    rw [sF_f (Or.inr (by rw [hff]; exact h148)), sM_f (Or.inr (by rw [hff]; exact h148))]
    exact ⟨rfl, rfl, rfl, rfl, rfl, trivial⟩
  · refine xV_iinc e_X3_silent_151 rfl rfl rfl ?_
    refine xV_iload_n e_X3_silent_154 rfl ?_
    refine xV_bipush (v := (-9)) e_X3_silent_155 (by decide) ?_
    refine xV_icmp_ne e_X3_silent_157 (fun h157 => ?_) (fun h157 => ?_)
    · refine xV_iload_n e_X3_silent_165 rfl ?_
      refine xV_iload e_X3_silent_166 rfl ?_
      refine xV_iand e_X3_silent_168 ?_
      refine xV_istore_n e_X3_silent_169 (Nat.le_of_ble_eq_true rfl) rfl ?_
      refine xV_iincN e_X3_silent_170 rfl rfl ?_
      refine xV_goto e_X3_silent_173 ?_
      refine xV_sub (xl' := [some (.ref m), some (.int what), some (.int (sF mo S sc sl seen (k + 1)).1), some (.int (sM mo S sc sl seen (k + 1))), some (.int (nI (k + 1))), none, none, none]) ?_ (hn none none none)
      rw [(sM_t hB hk16 hz (by rw [hff]; exact h148)).2 h157, sF_t hz (by rw [hff]; exact h148)]
      exact ⟨rfl, rfl, rfl, rfl, rfl, trivial⟩
    · refine xV_iload e_X3_silent_160 rfl ?_
      refine xV_goto e_X3_silent_162 ?_
      refine xV_istore_n e_X3_silent_169 (Nat.le_of_ble_eq_true rfl) rfl ?_
      refine xV_iincN e_X3_silent_170 rfl rfl ?_
      refine xV_goto e_X3_silent_173 ?_
      refine xV_sub (xl' := [some (.ref m), some (.int what), some (.int (sF mo S sc sl seen (k + 1)).1), some (.int (sM mo S sc sl seen (k + 1))), some (.int (nI (k + 1))), none, none, none]) ?_ (hn none none none)
      rw [(sM_t hB hk16 hz (by rw [hff]; exact h148)).1 h157, sF_t hz (by rw [hff]; exact h148)]
      exact ⟨rfl, rfl, rfl, rfl, rfl, trivial⟩
set_option maxHeartbeats 4000000 in
set_option maxRecDepth 100000 in
theorem P_X3_silent_26 {m mo E : Nat} {S : xS} (hX : XM G T R m) (hmo : I m 5 = nI mo) (hB : GB mo (I (m + 2)) S) (hV : GV mo E S) (hho : I m 4 = S.1 5) (hPg : PR mo S (I (m + 3))) {seen : Nat} (hsn : I m 19 = nI seen) (hs6 : seen ≤ 6) (hsc : ∀ k, k < seen → ∃ c, c < 12 ∧ I (m + 9) k = nI c) {what : Int32} (hw : (decide (nI 0 ≤ what) && decide (what ≤ nI 1)) = true) : ∀ k, k ≤ 2 ^ mo → ∀ (P : Nat → Int32) (j5 j6 j7 : Option Value), xV G Y_X3_silent T (T, fun o2 R2 L2 I2 => ∃ r, o2 = some (.int r) ∧ (r = qSilent mo S (I (m + 9)) (I (m + 10)) seen what ∧ R2 = R ∧ L2 = L ∧ ∃ Q, I2 = va_up I (m + 11) Q)) 26 [some (.ref m), some (.int what), some (.int (sF mo S (I (m + 9)) (I (m + 10)) seen k).1), some (.int (sM mo S (I (m + 9)) (I (m + 10)) seen k)), some (.int (nI k)), j5, j6, j7] [] T R L (va_up I (m + 11) P) := by
  obtain ⟨m0, rt, st, rs, ss, rp, sp, rrp, srp, rrs, srs, rb, sb, rk, sk, ri, si, rc, sc, rv, sv, rr, sr⟩ := id hX
  have hm4 := hB.1.2.1
  have h16 := p2_le mo (by omega)
  refine xloop (2 ^ mo) (fun k hk0 ih => ?_)
  intro P j5 j6 j7
  refine xV_iload e_X3_silent_26 rfl ?_
  refine xV_iconst (v := (nI 1)) e_X3_silent_28 (by decide) ?_
  refine xV_aload_n e_X3_silent_29 rfl ?_
  refine xV_getMO e_X3_silent_30 f_X3_51 m0 (by omega) hmo ?_
  refine xV_ishl e_X3_silent_33 ?_
  rw [p2_ok mo (by omega)]
  refine xV_icmp_geN e_X3_silent_34 (by omega) (by omega) (fun h34 => ?_) (fun h34 => ?_)
  · have hke : k = 2 ^ mo := by omega
    subst hke
    refine xV_iload_n e_X3_silent_176 rfl ?_
    refine xV_if_ne e_X3_silent_177 (fun h177 => ?_) (fun h177 => ?_)
    · refine xV_iload_n e_X3_silent_184 rfl ?_
      exact xV_ireturn e_X3_silent_185 rfl rfl ⟨_, rfl, by rw [qSil_v hB hw, if_neg h177], rfl, rfl, _, rfl⟩
    · refine xV_iload_n e_X3_silent_180 rfl ?_
      refine xV_goto e_X3_silent_181 ?_
      exact xV_ireturn e_X3_silent_185 rfl rfl ⟨_, rfl, by rw [qSil_v hB hw, if_pos h177], rfl, rfl, _, rfl⟩
  · have hk2 : k < 2 ^ mo := by omega
    refine xV_iload e_X3_silent_37 rfl ?_
    refine xV_aload_n e_X3_silent_39 rfl ?_
    refine xV_getR e_X3_silent_40 f_X3_20 (by assumption) (by assumption) ?_
    refine xV_bipush (v := (nI 53)) e_X3_silent_43 (by decide) ?_
    refine xV_ialdN e_X3_silent_45 (by first | exact xRow.vp (by assumption) | exact xRow.vo (by omega) (by assumption)) (by omega) (by omega) ?_
    refine xV_iand e_X3_silent_46 ?_
    refine xV_if_ne e_X3_silent_47 (fun h47 => ?_) (fun h47 => ?_)
    · refine xV_iincN e_X3_silent_170 rfl rfl ?_
      refine xV_goto e_X3_silent_173 ?_
      refine xV_sub (xl' := [some (.ref m), some (.int what), some (.int (sF mo S (I (m + 9)) (I (m + 10)) seen (k + 1)).1), some (.int (sM mo S (I (m + 9)) (I (m + 10)) seen (k + 1))), some (.int (nI (k + 1))), none, none, none]) ?_ (ih (by omega) _ none none none)
      rw [sF_f (Or.inl (fun z => h47 (by rw [and_liv hB hk2, ← hPg.2.2.2.2.2.2.1] at z; exact z))), sM_f (Or.inl (fun z => h47 (by rw [and_liv hB hk2, ← hPg.2.2.2.2.2.2.1] at z; exact z)))]
      exact ⟨rfl, rfl, rfl, rfl, rfl, trivial⟩
    · refine xV_aload_n e_X3_silent_50 rfl ?_
      refine xV_cV0v e_X3_silent_51 c_X3_151 (by assumption) (C_X3_begin hX) (Nat.le_of_ble_eq_true rfl) ⟨(Nat.le_of_ble_eq_true rfl), (Nat.le_of_ble_eq_true rfl)⟩ (xle_r _) (xle_r _) ?_
      refine xV_aload_n e_X3_silent_54 rfl ?_
      refine xV_aload_n e_X3_silent_55 rfl ?_
      refine xV_getR e_X3_silent_56 f_X3_45 (by assumption) (by assumption) ?_
      refine xV_iload e_X3_silent_59 rfl ?_
      refine xV_cV2vP e_X3_silent_61 c_X3_168 (by assumption) (K_prayAll hX hmo hB hV hho sr ⟨by omega, by omega⟩ (hPg.cp hm4)) (Nat.le_of_ble_eq_true rfl) ⟨(Nat.le_of_ble_eq_true rfl), (Nat.le_of_ble_eq_true rfl)⟩ (xle_r _) (xle_r _) (fun R2 L2 J hq => ?_)
      obtain ⟨rfl, rfl, Q, rfl, hQ⟩ := hq
      refine xV_iconst (v := (nI 1)) e_X3_silent_64 (by decide) ?_
      refine xV_istore e_X3_silent_65 (Nat.le_of_ble_eq_true rfl) rfl ?_
      refine xV_iconst (v := (nI 0)) e_X3_silent_67 (by decide) ?_
      refine xV_istore e_X3_silent_68 (Nat.le_of_ble_eq_true rfl) rfl ?_
      refine P_X3_silent_70 (S := gPa mo (nI k) S 4) (FF := bSil mo S (I (m + 9)) (I (m + 10)) seen (nI k)) hX hsn hs6 hsc hQ rfl (fun ff j7 hff => ?_) 0 (Nat.zero_le _) true j7 (by rw [Nat.sub_zero, Bool.true_and]; rfl)
      exact P_X3_silent_146 hB hk2 (by omega) (by rw [and_liv hB hk2, ← hPg.2.2.2.2.2.2.1]; exact h47) hff (by rfl) (fun j5 j6 j7 => ih (by omega) Q j5 j6 j7)
set_option maxHeartbeats 4000000 in
set_option maxRecDepth 100000 in
theorem K_silentP {m mo E : Nat} {S : xS} (hX : XM G T R m) (hmo : I m 5 = nI mo) (hB : GB mo (I (m + 2)) S) (hV : GV mo E S) (hho : I m 4 = S.1 5) (hPg : PR mo S (I (m + 3))) (h0 : I m 0 = nI 0) {seen : Nat} (hsn : I m 19 = nI seen) (hs6 : seen ≤ 6) (hsc : ∀ k, k < seen → ∃ c, c < 12 ∧ I (m + 9) k = nI c) {P : Nat → Int32} {what : Int32} : xCon G Y_X3_silent [.ref m, .int what] T R L (va_up I (m + 11) P) ((T, fun o2 R2 L2 I2 => ∃ r, o2 = some (.int r) ∧ (r = qSilent mo S (I (m + 9)) (I (m + 10)) seen what ∧ R2 = R ∧ L2 = L ∧ ∃ Q, I2 = va_up I (m + 11) Q))) := by
  obtain ⟨m0, rt, st, rs, ss, rp, sp, rrp, srp, rrs, srs, rb, sb, rk, sk, ri, si, rc, sc, rv, sv, rr, sr⟩ := id hX
  have hm4 := hB.1.2.1
  refine xCon.mk (xl := [some (.ref m), some (.int what), none, none, none, none, none, none]) (by decide +kernel) (xle_r _) rfl (Nat.le_of_ble_eq_true rfl) rfl ?_
  refine xV_aload_n e_X3_silent_0 rfl ?_
  refine xV_iconst (v := (nI 0)) e_X3_silent_1 (by decide) ?_
  refine xV_putI e_X3_silent_2 p_X3_48 (by assumption) ?_
  rw [xst_ownP h0]
  refine xV_iload_n e_X3_silent_5 rfl ?_
  refine xV_i2l e_X3_silent_6 ?_
  refine xV_lconst (v := 0) e_X3_silent_7 (by decide) ?_
  refine xV_lconst (v := 1) e_X3_silent_8 (by decide) ?_
  refine xV_cS3i e_X3_silent_9 c_X3_54 (C_X3_in) (Nat.le_of_ble_eq_true rfl) ⟨(Nat.le_of_ble_eq_true rfl), (Nat.le_of_ble_eq_true rfl)⟩ (xle_r _) (xle_r _) ?_
  rw [bL_N (a := 0) (b := 1) (by decide) (by decide)]
  refine xV_if_neB e_X3_silent_12 (fun h12 => ?_) (fun h12 => ?_)
  · refine xV_iconst (v := (nI 0)) e_X3_silent_18 (by decide) ?_
    refine xV_istore_n e_X3_silent_19 (Nat.le_of_ble_eq_true rfl) rfl ?_
    refine xV_bipush (v := (-9)) e_X3_silent_20 (by decide) ?_
    refine xV_istore_n e_X3_silent_22 (Nat.le_of_ble_eq_true rfl) rfl ?_
    refine xV_iconst (v := (nI 0)) e_X3_silent_23 (by decide) ?_
    refine xV_istore e_X3_silent_24 (Nat.le_of_ble_eq_true rfl) rfl ?_
    exact P_X3_silent_26 hX hmo hB hV hho hPg hsn hs6 hsc h12 0 (Nat.zero_le _) P none none none
  · refine xV_bipush (v := (-2)) e_X3_silent_15 (by decide) ?_
    exact xV_ireturn e_X3_silent_17 rfl rfl ⟨_, rfl, (qSil_b h12).symm, rfl, rfl, _, rfl⟩
theorem K_silent {m mo E : Nat} {S : xS} (hX : XM G T R m) (hmo : I m 5 = nI mo) (hB : GB mo (I (m + 2)) S) (hV : GV mo E S) (hho : I m 4 = S.1 5) (hPg : PR mo S (I (m + 3))) (h0 : I m 0 = nI 0) {seen : Nat} (hsn : I m 19 = nI seen) (hs6 : seen ≤ 6) (hsc : ∀ k, k < seen → ∃ c, c < 12 ∧ I (m + 9) k = nI c) {what : Int32} : xCon G Y_X3_silent [.ref m, .int what] T R L I (T, fun o2 R2 L2 I2 => ∃ r, o2 = some (.int r) ∧ (r = qSilent mo S (I (m + 9)) (I (m + 10)) seen what ∧ R2 = R ∧ L2 = L ∧ ∃ Q, I2 = va_up I (m + 11) Q)) := by
  have q := K_silentP (L := L) (P := I (m + 11)) hX hmo hB hV hho hPg h0 hsn hs6 hsc (what := what)
  rwa [va_up_own] at q
end XMI
