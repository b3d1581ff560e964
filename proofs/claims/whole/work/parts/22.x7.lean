/-! PRAYERTAILINGS: acts, undo, slots -/
section XPX
variable {G : xG} {T : xT} {R : xR} {L : xL} {I : xI}
theorem xCon.weak {Y : xY} {av : List Value} {o1 o2 : xO} (e : o1.1 = o2.1) (h : ∀ v R L I, o1.2 v R L I → o2.2 v R L I) (q : xCon G Y av T R L I o1) : xCon G Y av T R L I o2 := by
  obtain ⟨T1, P1⟩ := o1
  obtain ⟨T2, P2⟩ := o2
  dsimp only at e h
  subst e
  refine ⟨q.1, fun l => ?_⟩
  exact Jvm.Free.MetFree.mono (q.2 l) (fun _ _ z => z) (fun _ _ _ _ _ z => z) (fun a st oc t _ hq => ⟨⟨by obtain ⟨⟨v, R2, L2, I2, h1, h2, h3⟩, _⟩ := hq.1; exact ⟨v, R2, L2, I2, h1, h v R2 L2 I2 h2, h3⟩, hq.1.2⟩, hq.2⟩)
def PastR (R : xR) (x : Nat) (p : Nat → Nat) : Prop := (∀ i, i < 14 → R (x + 22) i = some (x + 26 + 6 * p i) ∧ p i < 14) ∧ ∀ i j, i < 14 → j < 14 → p i = p j → i = j
theorem MinS.R2 {h : Nat} {R2 : xR} (e : R2 h = R h) (hm : MinS G T R h) : MinS G T R2 h := by
  obtain ⟨a0, a1, a2, a3, a4, a5, a6⟩ := hm
  exact ⟨a0, by rw [e]; exact a1, by rw [e]; exact a2, by rw [e]; exact a3, by rw [e]; exact a4, by rw [e]; exact a5, a6⟩
theorem XS.R2 {x : Nat} {R2 : xR} (e : ∀ a, a ≠ x + 22 → R2 a = R a) (hX : XS G T R x) : XS G T R2 x := by
  obtain ⟨x0, xt, xts, xr, hrd, xn, hn, xtr, htr, xs, xss, xp, xps, xq, xqs, xqr, xqm, xc, xcs, xo, xos, hpool⟩ := hX
  have e0 := e x (by omega)
  exact ⟨x0, by rw [e0]; exact xt, xts, by rw [e0]; exact xr, ⟨hrd.1, by rw [e (x + 2) (by omega)]; exact hrd.2.1, hrd.2.2.R2 (e _ (by omega))⟩, by rw [e0]; exact xn, hn.R2 (e _ (by omega)), by rw [e0]; exact xtr, htr.R2 (e _ (by omega)), by rw [e0]; exact xs, xss, by rw [e0]; exact xp, xps, by rw [e0]; exact xq, xqs,
    fun i hi => by rw [e (x + 23) (by omega)]; exact xqr i hi, fun i hi => (xqm i hi).R2 (e _ (by omega)), by rw [e0]; exact xc, xcs, by rw [e0]; exact xo, xos, fun j hj => (hpool j hj).R2 (e _ (by omega))⟩
def rot (p : Nat → Nat) (k i : Nat) : Nat := if i < k then p (i + 1) else if i = k then p 0 else p i
def Rrot (R : xR) (x : Nat) (p : Nat → Nat) (k : Nat) : xR := va_up R (x + 22) (fun i => if i < 14 then some (x + 26 + 6 * rot p k i) else R (x + 22) i)
theorem Rrot_0 {x : Nat} {p : Nat → Nat} (hp : PastR R x p) : Rrot R x p 0 = R := by
  unfold Rrot
  have e : (fun i => if i < 14 then some (x + 26 + 6 * rot p 0 i) else R (x + 22) i) = R (x + 22) := by
    funext i
    split
    · rename_i h
      rw [(hp.1 i h).1]
      unfold rot
      rw [if_neg (by omega)]
      split
      · rename_i e; rw [e]
      · rfl
    · rfl
  rw [e, va_up_own]
theorem Rrot_at {x : Nat} {p : Nat → Nat} {k i : Nat} (h : i < 14) : Rrot R x p k (x + 22) i = some (x + 26 + 6 * rot p k i) := by
  unfold Rrot
  rw [va_up_s, if_pos h]
theorem Rrot_s {x : Nat} {p : Nat → Nat} {k : Nat} (h : k + 1 < 14) : xsr (xsr (Rrot R x p k) (x + 22) k (x + 26 + 6 * rot p k (k + 1))) (x + 22) (k + 1) (x + 26 + 6 * rot p k k) = Rrot R x p (k + 1) := by
  unfold xsr
  rw [va_up_s, va_up_up]
  unfold Rrot
  rw [va_up_s, va_up_up]
  congr 1
  funext i
  by_cases e1 : i = k + 1
  · subst e1
    rw [va_up_s, if_pos h]
    simp [rot]
  · rw [va_up_n e1]
    by_cases e2 : i = k
    · subst e2
      rw [va_up_s, if_pos (by omega)]
      have c2 : ¬ i + 1 < i := by omega
      simp [rot, c2]
    · rw [va_up_n e2]
      have c1 : i < k + 1 ↔ i < k := by omega
      simp [rot, e1, e2, c1]
theorem Rrot_o {x : Nat} {p : Nat → Nat} {k : Nat} : ∀ a, a ≠ x + 22 → Rrot R x p k a = R a := fun a h => by unfold Rrot; rw [va_up_n h]
theorem rot_past {x : Nat} {p : Nat → Nat} (hp : PastR R x p) : PastR (Rrot R x p 13) x (rot p 13) := by
  have hv : ∀ i, i < 14 → rot p 13 i = p ((i + 1) % 14) := by
    intro i hi
    unfold rot
    by_cases e : i < 13
    · rw [if_pos e, Nat.mod_eq_of_lt (by omega)]
    · have : i = 13 := by omega
      subst this
      rfl
  refine ⟨fun i hi => ⟨Rrot_at hi, ?_⟩, fun i j hi hj e => ?_⟩
  · rw [hv i hi]
    exact (hp.1 _ (Nat.mod_lt _ (by decide))).2
  · rw [hv i hi, hv j hj] at e
    have := hp.2 _ _ (Nat.mod_lt _ (by decide)) (Nat.mod_lt _ (by decide)) e
    omega
/-- behind remember: the past is longer by the mine as it is, or its first one is gone -/
def rN (na : Nat) : Nat := if na < 14 then na + 1 else 14
def RemP (x na : Nat) (p : Nat → Nat) (R : xR) (I : xI) (p2 : Nat → Nat) (R2 : xR) (I2 : xI) : Prop :=
  PastR R2 x p2 ∧ (∀ a, a ≠ x + 22 → R2 a = R a) ∧ I2 x = upd (I x) 7 (nI (rN na)) ∧ (∀ a, a ≠ x → (a < x + 26 ∨ x + 110 ≤ a) → I2 a = I a) ∧
  ∀ i, i < rN na → mS I2 (x + 26 + 6 * p2 i) = if na < 14 then (if i < na then mS I (x + 26 + 6 * p i) else mS I (x + 9)) else (if i < 13 then mS I (x + 26 + 6 * p (i + 1)) else mS I (x + 9))
theorem mS_xst {x h k : Nat} {v : Int32} (hx : x < h ∨ h + 6 ≤ x) : mS (xst I x k v) h = mS I h := by
  unfold mS
  rw [xst_o (by omega), xst_o (by omega), xst_o (by omega), xst_o (by omega), xst_o (by omega), xst_o (by omega)]
theorem RemP.A {x na : Nat} {p : Nat → Nat} (hp : PastR R x p) (hna : na < 14) : RemP x na p R I p R (xst (pm I (x + 26 + 6 * p na) (mS I (x + 9))) x 7 (nI (na + 1))) := by
  have hr : rN na = na + 1 := if_pos hna
  refine ⟨hp, fun _ _ => rfl, ?_, fun a h1 h2 => ?_, fun i hi => ?_⟩
  · rw [xst_s, pm_o (by omega), hr]
  · have := (hp.1 na hna).2
    rw [xst_o h1, pm_o (by omega)]
  · rw [hr] at hi
    rw [mS_xst (by omega), if_pos hna]
    by_cases e : i < na
    · rw [if_pos e, mS_pmo]
      have : p i ≠ p na := fun z => absurd (hp.2 i na (by omega) hna z) (by omega)
      omega
    · have : i = na := by omega
      subst this
      rw [if_neg e, mS_pm]
theorem RemP.B {x : Nat} {p : Nat → Nat} (hp : PastR R x p) : RemP x 14 p R I (rot p 13) (Rrot R x p 13) (xst (pm I (x + 26 + 6 * rot p 13 13) (mS I (x + 9))) x 7 (nI 14)) := by
  have hq := rot_past hp
  refine ⟨hq, Rrot_o, ?_, fun a h1 h2 => ?_, fun i hi => ?_⟩
  · rw [xst_s, pm_o (by omega)]
    rfl
  · have := (hq.1 13 (by decide)).2
    rw [xst_o h1, pm_o (by omega)]
  · have hi : i < 14 := hi
    rw [mS_xst (by omega), if_neg (by decide)]
    by_cases e : i < 13
    · rw [if_pos e, mS_pmo]
      · congr 3
        unfold rot
        rw [if_pos e]
      · have : rot p 13 i ≠ rot p 13 13 := fun z => absurd (hq.2 i 13 hi (by decide) z) (by omega)
        omega
    · have : i = 13 := by omega
      subst this
      rw [if_neg e, mS_pm]
theorem xst_pm_xst {x h : Nat} {S : xS} {v w : Int32} (hx : x < h ∨ h + 6 ≤ x) : xst (pm (xst I x 7 v) h S) x 7 w = xst (pm I h S) x 7 w := by
  funext a
  by_cases e : a = x
  · subst e
    rw [xst_s, xst_s, pm_o hx, pm_o hx, xst_s, upd_twice]
  · rw [xst_o e, xst_o e]
    refine pm_cases (h := h) (fun a => a ≠ x → pm (xst I x 7 v) h S a = pm I h S a) ?_ ?_ ?_ ?_ ?_ ?_ (fun ha hax => ?_) e
    · intro _; rw [pm_0, pm_0]
    · intro _; rw [pm_1, pm_1]
    · intro _; rw [pm_2, pm_2]
    · intro _; rw [pm_3, pm_3]
    · intro _; rw [pm_4, pm_4]
    · intro _; rw [pm_5, pm_5]
    · rw [pm_o ha, pm_o ha, xst_o hax]
set_option maxHeartbeats 4000000 in
set_option maxRecDepth 100000 in
theorem C_X2_rememberA {x : Nat} (hX : XS G T R x) {na : Nat} {p : Nat → Nat} (ha : I x 7 = nI na) (hna : na < 14) (hp : PastR R x p) : xCon G Y_X2_remember [.ref x] T R L I (xD none T R L (xst (pm I (x + 26 + 6 * p na) (mS I (x + 9))) x 7 (nI (na + 1)))) := by
  obtain ⟨x0, xt, xts, xr, hrd, xn, hn, xtr, htr, xs, xss, xp, xps, xq, xqs, xqr, xqm, xc, xcs, xo, xos, hpool⟩ := id hX
  obtain ⟨n0, nr0, nr1, nr2, nr3, nr4, ns1, ns2, ns3, ns4, ns5⟩ := id hn
  have t0 := htr.1
  have d0 := hrd.1
  obtain ⟨hpa, hpb⟩ := hp.1 na hna
  refine xCon.mk (xl := [some (.ref x), none, none]) (by decide +kernel) (xle_r _) rfl (Nat.le_of_ble_eq_true rfl) rfl ?_
  refine xV_aload_n e_X2_remember_0 rfl ?_
  refine xV_getI e_X2_remember_1 f_X2_65 (by assumption) ?_
  rw [ha]
  refine xV_aload_n e_X2_remember_4 rfl ?_
  refine xV_getR e_X2_remember_5 f_X2_33 (by assumption) (by assumption) ?_
  refine xV_alenQN e_X2_remember_8 xps ?_
  refine xV_icmp_ltN e_X2_remember_9 (by omega) (by omega) (fun h9 => ?_) (fun h9 => ?_)
  · refine xV_aload_n e_X2_remember_69 rfl ?_
    refine xV_getI e_X2_remember_70 f_X2_65 (by assumption) ?_
    rw [ha]
    refine xV_if_lt e_X2_remember_73 (fun h73 => ?_) (fun h73 => ?_)
    · exact absurd h73 (nI_pos (by omega))
    · refine xV_aload_n e_X2_remember_76 rfl ?_
      refine xV_getI e_X2_remember_77 f_X2_65 (by assumption) ?_
      rw [ha]
      refine xV_aload_n e_X2_remember_80 rfl ?_
      refine xV_getR e_X2_remember_81 f_X2_33 (by assumption) (by assumption) ?_
      refine xV_alenQN e_X2_remember_84 xps ?_
      refine xV_icmp_geN e_X2_remember_85 (by omega) (by omega) (fun h85 => ?_) (fun h85 => ?_)
      · exact absurd h85 (by omega)
      · refine xV_aload_n e_X2_remember_88 rfl ?_
        refine xV_getR e_X2_remember_89 f_X2_33 (by assumption) (by assumption) ?_
        refine xV_aload_n e_X2_remember_92 rfl ?_
        refine xV_getI e_X2_remember_93 f_X2_65 (by assumption) ?_
        rw [ha]
        refine xV_aaldN e_X2_remember_96 (by assumption) (by omega) (by omega) (by assumption) ?_
        refine xV_astore_n e_X2_remember_97 (Nat.le_of_ble_eq_true rfl) rfl ?_
        refine xV_aload_n e_X2_remember_98 rfl ?_
        refine xV_ifnull e_X2_remember_99 ?_
        refine xV_aload_n e_X2_remember_102 rfl ?_
        refine xV_aload_n e_X2_remember_103 rfl ?_
        refine xV_getR e_X2_remember_104 f_X2_23 (by assumption) (by assumption) ?_
        refine xV_cV1v e_X2_remember_107 c_X2_61 (hpool _ hpb).1 (C_X0_take (hpool _ hpb) hn (by omega)) (Nat.le_of_ble_eq_true rfl) ⟨(Nat.le_of_ble_eq_true rfl), (Nat.le_of_ble_eq_true rfl)⟩ (xle_r _) (xle_r _) ?_
        refine xV_aload_n e_X2_remember_110 rfl ?_
        refine xV_dup e_X2_remember_111 rfl ?_
        refine xV_getI e_X2_remember_112 f_X2_65 (by assumption) ?_
        rw [pm_o (by omega), ha]
        refine xV_iconst (v := (nI 1)) e_X2_remember_115 (by decide) ?_
        refine xV_iaddN e_X2_remember_116 ?_
        refine xV_putI e_X2_remember_117 p_X2_65 (by assumption) ?_
        exact xV_return e_X2_remember_120 rfl rfl ⟨rfl, rfl, rfl, rfl⟩
  · exact absurd h9 (by omega)
theorem rot_lt {x : Nat} {p : Nat → Nat} (hp : PastR R x p) (k : Nat) (hk : k < 14) : ∀ i, i < 14 → rot p k i < 14 := by
  intro i hi
  unfold rot
  split
  · exact (hp.1 (i + 1) (by omega)).2
  · split
    · exact (hp.1 0 (by omega)).2
    · exact (hp.1 i hi).2
set_option maxHeartbeats 4000000 in
set_option maxRecDepth 100000 in
theorem P_X2_remember_14 {x : Nat} (hX : XS G T R x) {p : Nat → Nat} {o : xO} (hp : PastR R x p) (hout : xV G Y_X2_remember T o 59 [some (.ref x), none, none] [] T (Rrot R x p 13) L I) : ∀ k, k ≤ 13 → xV G Y_X2_remember T o 14 [some (.ref x), some (.int (nI (k + 1))), none] [] T (Rrot R x p k) L I := by
  refine xloop 13 (fun k hk0 ih => ?_)
  have hX0 := hX
  have hX := hX0.R2 (Rrot_o (p := p) (k := k))
  obtain ⟨x0, xt, xts, xr, hrd, xn, hn, xtr, htr, xs, xss, xp, xps, xq, xqs, xqr, xqm, xc, xcs, xo, xos, hpool⟩ := id hX
  obtain ⟨n0, nr0, nr1, nr2, nr3, nr4, ns1, ns2, ns3, ns4, ns5⟩ := id hn
  have t0 := htr.1
  have d0 := hrd.1
  have hrt := rot_lt hp k (by omega)
  refine xV_iload_n e_X2_remember_14 rfl ?_
  refine xV_aload_n e_X2_remember_15 rfl ?_
  refine xV_getR e_X2_remember_16 f_X2_33 (by assumption) (by assumption) ?_
  refine xV_alenQN e_X2_remember_19 xps ?_
  refine xV_icmp_geN e_X2_remember_20 (by omega) (by omega) (fun h20 => ?_) (fun h20 => ?_)
  · obtain rfl : k = 13 := by omega
    exact xV_sub (xl' := [some (.ref x), none, none]) ⟨rfl, trivial⟩ hout
  · refine xV_aload_n e_X2_remember_23 rfl ?_
    refine xV_getR e_X2_remember_24 f_X2_33 (by assumption) (by assumption) ?_
    refine xV_iload_n e_X2_remember_27 rfl ?_
    refine xV_iconst (v := (nI 1)) e_X2_remember_28 (by decide) ?_
    refine xV_isubN e_X2_remember_29 (by omega) ?_
    rw [show k + 1 - 1 = k from rfl]
    refine xV_aaldN e_X2_remember_30 xps (by omega) (by omega) (Rrot_at (by omega)) ?_
    refine xV_astore_n e_X2_remember_31 (Nat.le_of_ble_eq_true rfl) rfl ?_
    refine xV_aload_n e_X2_remember_32 rfl ?_
    refine xV_getR e_X2_remember_33 f_X2_33 (by assumption) (by assumption) ?_
    refine xV_iload_n e_X2_remember_36 rfl ?_
    refine xV_iconst (v := (nI 1)) e_X2_remember_37 (by decide) ?_
    refine xV_isubN e_X2_remember_38 (by omega) ?_
    rw [show k + 1 - 1 = k from rfl]
    refine xV_aload_n e_X2_remember_39 rfl ?_
    refine xV_getR e_X2_remember_40 f_X2_33 (by assumption) (by assumption) ?_
    refine xV_iload_n e_X2_remember_43 rfl ?_
    refine xV_aaldN e_X2_remember_44 xps (by omega) (by omega) (Rrot_at (by omega)) ?_
    refine xV_aastN e_X2_remember_45 xps (by omega) (by omega) (hpool _ (hrt _ (by omega))).1 ?_
    refine xV_aload_n e_X2_remember_46 rfl ?_
    refine xV_getR e_X2_remember_47 f_X2_33 (by assumption) (show xsr (Rrot R x p k) (x + 22) k _ x 6 = some (x + 22) from by unfold xsr; rw [va_up_n (by omega)]; exact xp) ?_
    refine xV_iload_n e_X2_remember_50 rfl ?_
    refine xV_aload_n e_X2_remember_51 rfl ?_
    refine xV_aastN e_X2_remember_52 xps (by omega) (by omega) (hpool _ (hrt _ (by omega))).1 ?_
    refine xV_iincN e_X2_remember_53 rfl rfl ?_
    refine xV_goto e_X2_remember_56 ?_
    rw [Rrot_s (by omega)]
    refine xV_sub (xl' := [some (.ref x), some (.int (nI (k + 1 + 1))), none]) ⟨rfl, rfl, trivial⟩ ?_
    exact ih (by omega)
set_option maxHeartbeats 4000000 in
set_option maxRecDepth 100000 in
theorem C_X2_rememberT {x : Nat} (hX : XS G T R x) {p : Nat → Nat} (ha : I x 7 = nI 14) (hp : PastR R x p) : xV G Y_X2_remember T (xD none T (Rrot R x p 13) L (xst (pm I (x + 26 + 6 * rot p 13 13) (mS I (x + 9))) x 7 (nI 14))) 59 [some (.ref x), none, none] [] T (Rrot R x p 13) L I := by
  have hX0 := hX
  have hX := hX0.R2 (Rrot_o (p := p) (k := 13))
  obtain ⟨x0, xt, xts, xr, hrd, xn, hn, xtr, htr, xs, xss, xp, xps, xq, xqs, xqr, xqm, xc, xcs, xo, xos, hpool⟩ := id hX
  obtain ⟨n0, nr0, nr1, nr2, nr3, nr4, ns1, ns2, ns3, ns4, ns5⟩ := id hn
  have t0 := htr.1
  have d0 := hrd.1
  have hrt := rot_lt hp 13 (by omega) 13 (by omega)
  have e13 : xst I x 7 (nI 13) x 7 = nI 13 := by rw [xst_s]; rfl
  refine xV_aload_n e_X2_remember_59 rfl ?_
  refine xV_dup e_X2_remember_60 rfl ?_
  refine xV_getI e_X2_remember_61 f_X2_65 (by assumption) ?_
  rw [ha]
  refine xV_iconst (v := (nI 1)) e_X2_remember_64 (by decide) ?_
  refine xV_isubN e_X2_remember_65 (by omega) ?_
  refine xV_putI e_X2_remember_66 p_X2_65 (by assumption) ?_
  refine xV_aload_n e_X2_remember_69 rfl ?_
  refine xV_getI e_X2_remember_70 f_X2_65 (by assumption) ?_
  rw [e13]
  refine xV_if_lt e_X2_remember_73 (fun h73 => ?_) (fun h73 => ?_)
  · exact absurd h73 (nI_pos (by omega))
  · refine xV_aload_n e_X2_remember_76 rfl ?_
    refine xV_getI e_X2_remember_77 f_X2_65 (by assumption) ?_
    rw [e13]
    refine xV_aload_n e_X2_remember_80 rfl ?_
    refine xV_getR e_X2_remember_81 f_X2_33 (by assumption) (by assumption) ?_
    refine xV_alenQN e_X2_remember_84 xps ?_
    refine xV_icmp_geN e_X2_remember_85 (by omega) (by omega) (fun h85 => ?_) (fun h85 => ?_)
    · exact absurd h85 (by omega)
    · refine xV_aload_n e_X2_remember_88 rfl ?_
      refine xV_getR e_X2_remember_89 f_X2_33 (by assumption) (by assumption) ?_
      refine xV_aload_n e_X2_remember_92 rfl ?_
      refine xV_getI e_X2_remember_93 f_X2_65 (by assumption) ?_
      rw [e13]
      refine xV_aaldN e_X2_remember_96 xps (by omega) (by omega) (Rrot_at (by omega)) ?_
      refine xV_astore_n e_X2_remember_97 (Nat.le_of_ble_eq_true rfl) rfl ?_
      refine xV_aload_n e_X2_remember_98 rfl ?_
      refine xV_ifnull e_X2_remember_99 ?_
      refine xV_aload_n e_X2_remember_102 rfl ?_
      refine xV_aload_n e_X2_remember_103 rfl ?_
      refine xV_getR e_X2_remember_104 f_X2_23 (by assumption) (by assumption) ?_
      refine xV_cV1v e_X2_remember_107 c_X2_61 (hpool _ hrt).1 (C_X0_take (hpool _ hrt) hn (by omega)) (Nat.le_of_ble_eq_true rfl) ⟨(Nat.le_of_ble_eq_true rfl), (Nat.le_of_ble_eq_true rfl)⟩ (xle_r _) (xle_r _) ?_
      refine xV_aload_n e_X2_remember_110 rfl ?_
      refine xV_dup e_X2_remember_111 rfl ?_
      refine xV_getI e_X2_remember_112 f_X2_65 (by assumption) ?_
      rw [pm_o (by omega), e13]
      refine xV_iconst (v := (nI 1)) e_X2_remember_115 (by decide) ?_
      refine xV_iaddN e_X2_remember_116 ?_
      refine xV_putI e_X2_remember_117 p_X2_65 (by assumption) ?_
      rw [mS_xst (by omega), xst_pm_xst (by omega)]
      exact xV_return e_X2_remember_120 rfl rfl ⟨rfl, rfl, rfl, rfl⟩
set_option maxHeartbeats 4000000 in
set_option maxRecDepth 100000 in
theorem C_X2_rememberB {x : Nat} (hX : XS G T R x) {p : Nat → Nat} (ha : I x 7 = nI 14) (hp : PastR R x p) : xCon G Y_X2_remember [.ref x] T R L I (xD none T (Rrot R x p 13) L (xst (pm I (x + 26 + 6 * rot p 13 13) (mS I (x + 9))) x 7 (nI 14))) := by
  obtain ⟨x0, xt, xts, xr, hrd, xn, hn, xtr, htr, xs, xss, xp, xps, xq, xqs, xqr, xqm, xc, xcs, xo, xos, hpool⟩ := id hX
  obtain ⟨n0, nr0, nr1, nr2, nr3, nr4, ns1, ns2, ns3, ns4, ns5⟩ := id hn
  have t0 := htr.1
  have d0 := hrd.1
  refine xCon.mk (xl := [some (.ref x), none, none]) (by decide +kernel) (xle_r _) rfl (Nat.le_of_ble_eq_true rfl) rfl ?_
  refine xV_aload_n e_X2_remember_0 rfl ?_
  refine xV_getI e_X2_remember_1 f_X2_65 (by assumption) ?_
  rw [ha]
  refine xV_aload_n e_X2_remember_4 rfl ?_
  refine xV_getR e_X2_remember_5 f_X2_33 (by assumption) (by assumption) ?_
  refine xV_alenQN e_X2_remember_8 xps ?_
  refine xV_icmp_ltN e_X2_remember_9 (by omega) (by omega) (fun h9 => ?_) (fun h9 => ?_)
  · exact absurd h9 (by omega)
  · refine xV_iconst (v := (nI 1)) e_X2_remember_12 (by decide) ?_
    refine xV_istore_n e_X2_remember_13 (Nat.le_of_ble_eq_true rfl) rfl ?_
    have q := P_X2_remember_14 (R := R) (L := L) (I := I) hX hp (C_X2_rememberT hX ha hp) 0 (Nat.zero_le _)
    rw [Rrot_0 hp] at q
    exact xV_sub (xl' := [some (.ref x), some (.int (nI 1)), none]) ⟨rfl, rfl, trivial⟩ q
/-- remember -/
theorem C_X2_remember {x na : Nat} {p : Nat → Nat} (hX : XS G T R x) (ha : I x 7 = nI na) (hna : na ≤ 14) (hp : PastR R x p) : xCon G Y_X2_remember [.ref x] T R L I (T, fun v R2 L2 I2 => v = none ∧ (L2 = L ∧ ∃ p2, RemP x na p R I p2 R2 I2)) := by
  by_cases h : na < 14
  · have q := C_X2_rememberA (R := R) (L := L) hX ha h hp
    refine xCon.weak ?_ ?_ q
    · rfl
    rintro v R2 L2 I2 ⟨rfl, rfl, rfl, rfl⟩
    exact ⟨rfl, rfl, _, RemP.A hp h⟩
  · obtain rfl : na = 14 := by omega
    have q := C_X2_rememberB (R := R) (L := L) hX ha hp
    refine xCon.weak ?_ ?_ q
    · rfl
    rintro v R2 L2 I2 ⟨rfl, rfl, rfl, rfl⟩
    exact ⟨rfl, rfl, _, RemP.B hp⟩
end XPX
