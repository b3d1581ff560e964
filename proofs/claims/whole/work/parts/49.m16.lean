/-! THE MODEL: the text read, a mine taken -/
section XMP
variable {G : xG} {T : xT} {R : xR} {L : xL} {I : xI}
theorem RO.up {txt : Nat → Int32} {len m p : Nat} {F : Nat → Int32} {v : Int32} {res res2 : Int32 × xRd} {rb : Bool} {I2 : xI} (h : RO txt len m (p + 1) I (upd F 3 v) res rb I2) (e : res2 = res) : RO txt len m p I F res2 rb I2 := by
  obtain ⟨F', W', V', q, h1, h2, h3, h4, h5⟩ := h
  subst e
  refine ⟨F', W', V', q, h1, (KF.rf.up (by omega)).tr h2, h3, h4, ?_⟩
  rcases h5 with ⟨z1, z2⟩ | ⟨z1, z2, z3⟩
  · exact Or.inl ⟨z1, z2⟩
  · exact Or.inr ⟨z1, by omega, z3⟩
set_option maxHeartbeats 4000000 in
set_option maxRecDepth 100000 in
theorem K_readPart {m len p mo : Nat} (hX : XM G T R m) {F W V : Nat → Int32} (hlen : F 2 = nI len) (h72 : len ≤ 72) (hpl : F 3 = nI p) (hp : p < len) {S : xS} {X : xRd} {pl : Int32} (hR : RR mo S F W V) (hS : Sq X (nI 2) (F 11) pl S) : xCon G Y_X3_readPart [.ref m] T R L (rM I m F W V) ((T, fun o2 R2 L2 I2 => ∃ r, o2 = some (.int r) ∧ (∃ rb, r = xb rb ∧ R2 = R ∧ L2 = L ∧ RO (I (m + 1)) len m (p) I (F) (rLoop (I (m + 1)) (len - (p)) (p) X) rb I2))) := by
  obtain ⟨m0, rt, st, rs, ss, rp, sp, rrp, srp, rrs, srs, rb, sb, rk, sk, ri, si, rc, sc, rv, sv, rr, sr⟩ := id hX
  have hm4 := hR.2.2.2.2.2.1.1.2.1
  have hxb : xbc (F 11) = nI (cnt (F 11)) := xbc_cnt hR.1
  have D := rd_part (txt := (I (m + 1))) (len := len) (p := p) hp hS
  refine xCon.mk (xl := [some (.ref m), none]) (by decide +kernel) (xle_r _) rfl (Nat.le_of_ble_eq_true rfl) rfl ?_
  refine xV_aload_n e_X3_readPart_0 rfl ?_
  refine xV_getR e_X3_readPart_1 f_X3_7 (by assumption) (by assumption) ?_
  refine xV_aload_n e_X3_readPart_4 rfl ?_
  refine xV_getQ e_X3_readPart_5 f_X3_65 m0 ?_
  rw [hpl]
  refine xV_ialdN e_X3_readPart_8 (by exact xRow.q1 (by assumption)) (by omega) (by omega) ?_
  refine xV_istore_n e_X3_readPart_9 (Nat.le_of_ble_eq_true rfl) rfl ?_
  refine xV_iload_n e_X3_readPart_10 rfl ?_
  refine xV_bipush (v := (nI 67)) e_X3_readPart_11 (by decide) ?_
  refine xV_icmp_ne e_X3_readPart_13 (fun h13 => ?_) (fun h13 => ?_)
  · refine xV_iload_n e_X3_readPart_40 rfl ?_
    refine xV_bipush (v := (nI 75)) e_X3_readPart_41 (by decide) ?_
    refine xV_icmp_ne e_X3_readPart_43 (fun h43 => ?_) (fun h43 => ?_)
    · refine xV_iconst (v := (nI 0)) e_X3_readPart_69 (by decide) ?_
      exact xV_zreturn e_X3_readPart_70 rfl rfl rfl ⟨_, rfl, false, rfl, rfl, rfl, F, W, V, p, rfl, KF.rf, hpl, by omega, Or.inl ⟨rfl, D.2.2 (fun z => h13 z.1) (fun z => h43 z.1)⟩⟩
    · refine xV_aload_n e_X3_readPart_46 rfl ?_
      refine xV_getQ e_X3_readPart_47 f_X3_88 m0 ?_
      rw [hR.2.2.1]
      refine xV_iconst (v := (nI 4)) e_X3_readPart_50 (by decide) ?_
      refine xV_icmp_geN e_X3_readPart_51 (by omega) (by omega) (fun h51 => ?_) (fun h51 => ?_)
      · refine xV_iconst (v := (nI 0)) e_X3_readPart_69 (by decide) ?_
        exact xV_zreturn e_X3_readPart_70 rfl rfl rfl ⟨_, rfl, false, rfl, rfl, rfl, F, W, V, p, rfl, KF.rf, hpl, by omega, Or.inl ⟨rfl, D.2.2 (fun z => h13 z.1) (fun z => z.2 (by rw [show S.1 6 = nI mo from hR.2.2.2.2.2.1.1.1]; exact nI_le h51 (by omega)))⟩⟩
      · obtain ⟨X2, s2, e1⟩ := D.2.1 (fun z => h13 z.1) h43 (fun z => by rw [show S.1 6 = nI mo from hR.2.2.2.2.2.1.1.1] at z; exact absurd ((nI_leI (by decide) (by omega)).mp z) (by omega))
        refine xV_aload_n e_X3_readPart_54 rfl ?_
        refine xV_dup e_X3_readPart_55 rfl ?_
        refine xV_getQ e_X3_readPart_56 f_X3_65 m0 ?_
        rw [hpl]
        refine xV_iconst (v := (nI 1)) e_X3_readPart_59 (by decide) ?_
        refine xV_iaddN e_X3_readPart_60 ?_
        refine xV_putQ e_X3_readPart_61 p_X3_65 m0 ?_
        refine xV_aload_n e_X3_readPart_64 rfl ?_
        refine xV_cV0iP e_X3_readPart_65 c_X3_95 (by assumption) (K_readMonk (p := p + 1) hX ((upd_n (by omega)).trans hlen) h72 upd_s hp hR.f3 (by omega) (by rw [upd_n (by omega)]; exact s2)) (Nat.le_of_ble_eq_true rfl) ⟨(Nat.le_of_ble_eq_true rfl), (Nat.le_of_ble_eq_true rfl)⟩ (xle_r _) (xle_r _) (fun r2 R2 L2 J hq => ?_)
        obtain ⟨bb, rfl, rfl, rfl, hO⟩ := hq
        exact xV_zreturn e_X3_readPart_68 rfl (xb_nar _) rfl ⟨_, rfl, bb, rfl, rfl, rfl, hO.up e1⟩
  · refine xV_aload_n e_X3_readPart_16 rfl ?_
    refine xV_getQ e_X3_readPart_17 f_X3_85 m0 ?_
    rw [hR.2.1]
    have hc12 := cnt_le (F 11)
    refine xV_bipush (v := (nI 8)) e_X3_readPart_20 (by decide) ?_
    refine xV_icmp_geN e_X3_readPart_22 (by omega) (by omega) (fun h22 => ?_) (fun h22 => ?_)
    · refine xV_iload_n e_X3_readPart_40 rfl ?_
      refine xV_bipush (v := (nI 75)) e_X3_readPart_41 (by decide) ?_
      refine xV_icmp_ne e_X3_readPart_43 (fun h43 => ?_) (fun h43 => ?_)
      · refine xV_iconst (v := (nI 0)) e_X3_readPart_69 (by decide) ?_
        exact xV_zreturn e_X3_readPart_70 rfl rfl rfl ⟨_, rfl, false, rfl, rfl, rfl, F, W, V, p, rfl, KF.rf, hpl, by omega, Or.inl ⟨rfl, D.2.2 (fun z => z.2 (by rw [hxb]; exact nI_le h22 (by have := cnt_le (F 11); omega))) (fun z => h43 z.1)⟩⟩
      · refine xV_aload_n e_X3_readPart_46 rfl ?_
        refine xV_getQ e_X3_readPart_47 f_X3_88 m0 ?_
        rw [hR.2.2.1]
        refine xV_iconst (v := (nI 4)) e_X3_readPart_50 (by decide) ?_
        refine xV_icmp_geN e_X3_readPart_51 (by omega) (by omega) (fun h51 => ?_) (fun h51 => ?_)
        · refine xV_iconst (v := (nI 0)) e_X3_readPart_69 (by decide) ?_
          exact xV_zreturn e_X3_readPart_70 rfl rfl rfl ⟨_, rfl, false, rfl, rfl, rfl, F, W, V, p, rfl, KF.rf, hpl, by omega, Or.inl ⟨rfl, D.2.2 (fun z => z.2 (by rw [hxb]; exact nI_le h22 (by have := cnt_le (F 11); omega))) (fun z => z.2 (by rw [show S.1 6 = nI mo from hR.2.2.2.2.2.1.1.1]; exact nI_le h51 (by omega)))⟩⟩
        · obtain ⟨X2, s2, e1⟩ := D.2.1 (fun z => z.2 (by rw [hxb]; exact nI_le h22 (by have := cnt_le (F 11); omega))) h43 (fun z => by rw [show S.1 6 = nI mo from hR.2.2.2.2.2.1.1.1] at z; exact absurd ((nI_leI (by decide) (by omega)).mp z) (by omega))
          refine xV_aload_n e_X3_readPart_54 rfl ?_
          refine xV_dup e_X3_readPart_55 rfl ?_
          refine xV_getQ e_X3_readPart_56 f_X3_65 m0 ?_
          rw [hpl]
          refine xV_iconst (v := (nI 1)) e_X3_readPart_59 (by decide) ?_
          refine xV_iaddN e_X3_readPart_60 ?_
          refine xV_putQ e_X3_readPart_61 p_X3_65 m0 ?_
          refine xV_aload_n e_X3_readPart_64 rfl ?_
          refine xV_cV0iP e_X3_readPart_65 c_X3_95 (by assumption) (K_readMonk (p := p + 1) hX ((upd_n (by omega)).trans hlen) h72 upd_s hp hR.f3 (by omega) (by rw [upd_n (by omega)]; exact s2)) (Nat.le_of_ble_eq_true rfl) ⟨(Nat.le_of_ble_eq_true rfl), (Nat.le_of_ble_eq_true rfl)⟩ (xle_r _) (xle_r _) (fun r2 R2 L2 J hq => ?_)
          obtain ⟨bb, rfl, rfl, rfl, hO⟩ := hq
          exact xV_zreturn e_X3_readPart_68 rfl (xb_nar _) rfl ⟨_, rfl, bb, rfl, rfl, rfl, hO.up e1⟩
    · obtain ⟨X2, s2, e1⟩ := D.1 h13 (fun z => by rw [hxb] at z; exact absurd ((nI_leI (by decide) (by omega)).mp z) (by omega))
      refine xV_aload_n e_X3_readPart_25 rfl ?_
      refine xV_dup e_X3_readPart_26 rfl ?_
      refine xV_getQ e_X3_readPart_27 f_X3_65 m0 ?_
      rw [hpl]
      refine xV_iconst (v := (nI 1)) e_X3_readPart_30 (by decide) ?_
      refine xV_iaddN e_X3_readPart_31 ?_
      refine xV_putQ e_X3_readPart_32 p_X3_65 m0 ?_
      refine xV_aload_n e_X3_readPart_35 rfl ?_
      refine xV_cV0iP e_X3_readPart_36 c_X3_91 (by assumption) (K_readCell (p := p + 1) hX ((upd_n (by omega)).trans hlen) h72 upd_s hp hR.f3 (by rw [upd_n (by omega)]; exact s2)) (Nat.le_of_ble_eq_true rfl) ⟨(Nat.le_of_ble_eq_true rfl), (Nat.le_of_ble_eq_true rfl)⟩ (xle_r _) (xle_r _) (fun r2 R2 L2 J hq => ?_)
      obtain ⟨bb, rfl, rfl, rfl, hO⟩ := hq
      exact xV_zreturn e_X3_readPart_39 rfl (xb_nar _) rfl ⟨_, rfl, bb, rfl, rfl, rfl, hO.up e1⟩
set_option maxHeartbeats 4000000 in
set_option maxRecDepth 100000 in
theorem P_X3_readMine_e {m len p mo : Nat} (hX : XM G T R m) (h72 : len ≤ 72) (hpe : p = len) {F W V : Nat → Int32} {X : xRd} {S : xS} {pl : Int32} {j1 : Option Value} (hlen : F 2 = nI len) (hpl : F 3 = nI p) (hp : p ≤ len) (hR : RR mo S F W V) (hS : Sq X (nI 2) (F 11) pl S) :
    xV G Y_X3_readMine T (T, fun o2 R2 L2 I2 => ∃ r, o2 = some (.int r) ∧ (r = (rLoop (I (m + 1)) (len - p) p X).1 ∧ R2 = R ∧ L2 = L ∧ ∃ F' W' V', I2 = rM I m F' W' V' ∧ KF (F) F' ∧ (r = -9 → ∃ mo', RR mo' (rLoop (I (m + 1)) (len - p) p X).2.2 F' W' V'))) 88 [some (.ref m), j1] [] T R L (rM I m F W V) := by
  obtain ⟨m0, rt, st, rs, ss, rp, sp, rrp, srp, rrs, srs, rb, sb, rk, sk, ri, si, rc, sc, rv, sv, rr, sr⟩ := id hX
  subst hpe
  refine xV_aload_n e_X3_readMine_88 rfl ?_
  refine xV_getQ e_X3_readMine_89 f_X3_65 m0 ?_
  rw [hpl]
  refine xV_aload_n e_X3_readMine_92 rfl ?_
  refine xV_getQ e_X3_readMine_93 f_X3_62 m0 ?_
  rw [hlen]
  refine xV_icmp_geN e_X3_readMine_96 (by omega) (by omega) (fun h96 => ?_) (fun h96 => ?_)
  · refine xV_bipush (v := (-9)) e_X3_readMine_111 (by decide) ?_
    exact xV_ireturn e_X3_readMine_113 rfl rfl ⟨_, rfl, by rw [Nat.sub_self]; exact (if_pos hS.1).symm, rfl, rfl, F, W, V, rfl, KF.rf, fun _ => ⟨mo, by rw [Nat.sub_self]; exact hS.2.2.2 ▸ hR⟩⟩
  · exact absurd h96 (by omega)
theorem P_X3_readMine_w {m : Nat} {F F1 : Nat → Int32} {J : xI} {pc : Nat} {xl : List (Option Value)} {res : Int32 × xRd} (hk : KF F F1) (h : xV G Y_X3_readMine T (T, fun o2 R2 L2 I2 => ∃ r, o2 = some (.int r) ∧ (r = (res).1 ∧ R2 = R ∧ L2 = L ∧ ∃ F' W' V', I2 = rM I m F' W' V' ∧ KF (F1) F' ∧ (r = -9 → ∃ mo', RR mo' (res).2.2 F' W' V'))) pc xl [] T R L J) : xV G Y_X3_readMine T (T, fun o2 R2 L2 I2 => ∃ r, o2 = some (.int r) ∧ (r = (res).1 ∧ R2 = R ∧ L2 = L ∧ ∃ F' W' V', I2 = rM I m F' W' V' ∧ KF (F) F' ∧ (r = -9 → ∃ mo', RR mo' (res).2.2 F' W' V'))) pc xl [] T R L J := by
  intro p l e Rm s m2 args below meth c H locs Q ls hF hRm hl hn hR hS hE
  refine h p l e Rm s m2 args below meth c H locs Q ls hF hRm hl hn hR hS ?_
  intro H2 locs2 ls2 pc2 v R2 L2 I2 d1 d2 d3 d4 d5
  refine hE H2 locs2 ls2 pc2 v R2 L2 I2 d1 d2 ?_ d4 d5
  obtain ⟨r, z1, z2, z3, z4, F', W', V', z5, z6, z7⟩ := d3
  exact ⟨r, z1, z2, z3, z4, F', W', V', z5, hk.tr z6, z7⟩
set_option maxHeartbeats 4000000 in
set_option maxRecDepth 100000 in
theorem P_X3_readMine_88 {m len : Nat} (hX : XM G T R m) (h72 : len ≤ 72) : ∀ n p (F W V : Nat → Int32) (mo : Nat) (X : xRd) (S : xS) (pl : Int32) (j1 : Option Value), len - p ≤ n → F 2 = nI len → F 3 = nI p → p ≤ len → RR mo S F W V → Sq X (nI 2) (F 11) pl S →
    xV G Y_X3_readMine T (T, fun o2 R2 L2 I2 => ∃ r, o2 = some (.int r) ∧ (r = (rLoop (I (m + 1)) (len - p) p X).1 ∧ R2 = R ∧ L2 = L ∧ ∃ F' W' V', I2 = rM I m F' W' V' ∧ KF (F) F' ∧ (r = -9 → ∃ mo', RR mo' (rLoop (I (m + 1)) (len - p) p X).2.2 F' W' V'))) 88 [some (.ref m), j1] [] T R L (rM I m F W V) := by
  obtain ⟨m0, rt, st, rs, ss, rp, sp, rrp, srp, rrs, srs, rb, sb, rk, sk, ri, si, rc, sc, rv, sv, rr, sr⟩ := id hX
  intro n
  induction n with
  | zero =>
    intro p F W V mo X S pl j1 hn hlen hpl hp hR hS
    exact P_X3_readMine_e hX h72 (by omega) hlen hpl hp hR hS
  | succ n ih0 =>
  intro p F W V mo X S pl j1 hn hlen hpl hp hR hS
  by_cases hlt : p = len
  · exact P_X3_readMine_e hX h72 hlt hlen hpl hp hR hS
  have ih : ∀ q (F W V : Nat → Int32) (mo : Nat) (X : xRd) (S : xS) (pl : Int32) (j1 : Option Value), len - q ≤ n → F 2 = nI len → F 3 = nI q → q ≤ len → RR mo S F W V → Sq X (nI 2) (F 11) pl S → xV G Y_X3_readMine T (T, fun o2 R2 L2 I2 => ∃ r, o2 = some (.int r) ∧ (r = (rLoop (I (m + 1)) (len - q) q X).1 ∧ R2 = R ∧ L2 = L ∧ ∃ F' W' V', I2 = rM I m F' W' V' ∧ KF (F) F' ∧ (r = -9 → ∃ mo', RR mo' (rLoop (I (m + 1)) (len - q) q X).2.2 F' W' V'))) 88 [some (.ref m), j1] [] T R L (rM I m F W V) := ih0
  refine xV_aload_n e_X3_readMine_88 rfl ?_
  refine xV_getQ e_X3_readMine_89 f_X3_65 m0 ?_
  rw [hpl]
  refine xV_aload_n e_X3_readMine_92 rfl ?_
  refine xV_getQ e_X3_readMine_93 f_X3_62 m0 ?_
  rw [hlen]
  refine xV_icmp_geN e_X3_readMine_96 (by omega) (by omega) (fun h96 => ?_) (fun h96 => ?_)
  · obtain rfl : p = len := by omega
    refine xV_bipush (v := (-9)) e_X3_readMine_111 (by decide) ?_
    exact xV_ireturn e_X3_readMine_113 rfl rfl ⟨_, rfl, by rw [Nat.sub_self]; exact (if_pos hS.1).symm, rfl, rfl, F, W, V, rfl, KF.rf, fun _ => ⟨mo, by rw [Nat.sub_self]; exact hS.2.2.2 ▸ hR⟩⟩
  · refine xV_aload_n e_X3_readMine_99 rfl ?_
    refine xV_cV0iP e_X3_readMine_100 c_X3_101 (by assumption) (K_readPart hX hlen h72 hpl (by omega) hR hS) (Nat.le_of_ble_eq_true rfl) ⟨(Nat.le_of_ble_eq_true rfl), (Nat.le_of_ble_eq_true rfl)⟩ (xle_r _) (xle_r _) (fun r2 R2 L2 J hq => ?_)
    obtain ⟨bb, rfl, rfl, rfl, hO⟩ := hq
    refine xV_if_neB e_X3_readMine_103 (fun h103 => ?_) (fun h103 => ?_)
    · obtain ⟨F', W', V', q, rfl, hk, hq3, hql, hor⟩ := hO
      rcases hor with ⟨z, _⟩ | ⟨_, hpq, mo', X', S', pl', sX, hR', hres⟩
      · rw [h103] at z; cases z
      · have g := ih q F' W' V' mo' X' S' pl' j1 (by omega) (hk.2.1.trans hlen) hq3 hql hR' sX
        rw [hres]
        exact P_X3_readMine_w hk g
    · obtain ⟨F', W', V', q, rfl, hk, hq3, hql, hor⟩ := hO
      rcases hor with ⟨_, hres⟩ | ⟨z, _⟩
      rotate_left
      · rw [h103] at z; cases z
      refine xV_aload_n e_X3_readMine_106 rfl ?_
      refine xV_getQ e_X3_readMine_107 f_X3_65 m0 ?_
      rw [hq3]
      exact xV_ireturn e_X3_readMine_110 rfl rfl ⟨_, rfl, hres.symm, rfl, rfl, F', W', V', rfl, hk, fun z => absurd z (ne9 (by omega))⟩
def zP (W : Nat → Int32) (n : Nat) : Nat → Int32 := fun k => if k < n then nI 0 else W k
theorem zP_0 {W : Nat → Int32} : zP W 0 = W := by funext k; unfold zP; rw [if_neg (by omega)]
theorem zP_s {W : Nat → Int32} {n : Nat} : upd (zP W n) n (nI 0) = zP W (n + 1) := by
  funext k
  by_cases e : k = n
  · subst e; rw [upd_s]; unfold zP; rw [if_pos (by omega)]
  · rw [upd_n e]; unfold zP; exact if_cg (by omega)
set_option maxHeartbeats 4000000 in
set_option maxRecDepth 100000 in
theorem P_X3_readMine_22 {m : Nat} (hX : XM G T R m) {F W V : Nat → Int32} {o : xO} (ho : o.1 = T) (hout : xV G Y_X3_readMine T o 41 [some (.ref m), some (.int (nI 58))] [] T R L (rM I m F (zP W 58) V)) : ∀ k, k ≤ 58 → xV G Y_X3_readMine T o 22 [some (.ref m), some (.int (nI k))] [] T R L (rM I m F (zP W k) V) := by
  obtain ⟨m0, rt, st, rs, ss, rp, sp, rrp, srp, rrs, srs, rb, sb, rk, sk, ri, si, rc, sc, rv, sv, rr, sr⟩ := id hX
  obtain ⟨oT, oP⟩ := o
  subst ho
  refine xloop 58 (fun k hk0 ih => ?_)
  refine xV_iload_n e_X3_readMine_22 rfl ?_
  refine xV_bipush (v := (nI 58)) e_X3_readMine_23 (by decide) ?_
  refine xV_icmp_geN e_X3_readMine_25 (by omega) (by omega) (fun h25 => ?_) (fun h25 => ?_)
  · obtain rfl : k = 58 := by omega
    exact hout
  · refine xV_aload_n e_X3_readMine_28 rfl ?_
    refine xV_getR e_X3_readMine_29 f_X3_23 (by assumption) (by assumption) ?_
    refine xV_iload_n e_X3_readMine_32 rfl ?_
    refine xV_iconst (v := (nI 0)) e_X3_readMine_33 (by decide) ?_
    first | refine xV_iastQ4 e_X3_readMine_34 (by assumption) (by omega) (by omega) ?_ | refine xV_iastQ5 e_X3_readMine_34 (by assumption) (by omega) (by omega) ?_
    refine xV_iincN e_X3_readMine_35 rfl rfl ?_
    refine xV_goto e_X3_readMine_38 ?_
    rw [zP_s]
    exact ih (by omega)
/-- the class's reader at its start: nothing is told -/
def Cl (X : xRd) : Prop := X.1 1 = nI 0 ∧ X.1 2 = nI 0 ∧ X.2.1 6 = nI 0 ∧ X.2.1 7 = nI 0 ∧ X.2.1 8 = nI 0 ∧ X.2.1 9 = nI 0 ∧ X.2.1 10 = nI 0 ∧ X.2.1 11 = nI 0 ∧ ∀ c, c < 12 → X.2.2.1 c = nI 0 ∧ X.2.2.2.1 c = nI 0 ∧ X.2.2.2.2.1 c = nI 0 ∧ X.2.2.2.2.2.1 c = nI 0
theorem RR.cl {X : xRd} {F W V : Nat → Int32} {h : Nat} (hC : Cl X) (hh : h ≤ 9) (f11 : F 11 = nI 0) (f10 : F 10 = nI 0) (f9 : F 9 = nI 0) (f8 : F 8 = nI h) : RR 0 (upd X.2.1 5 (nI h), X.2.2) F (zP W 58) V := by
  obtain ⟨c1, c2, c3, c4, c5, c6, c7, c8, c9⟩ := hC
  have z : ∀ k, k < 58 → zP W 58 k = nI 0 := fun k hk => if_pos hk
  have g : ∀ k, k ≠ 5 → (upd X.2.1 5 (nI h), X.2.2).1 k = X.2.1 k := fun k hk => by
    show upd X.2.1 5 (nI h) k = X.2.1 k
    exact upd_n hk
  have g5 : (upd X.2.1 5 (nI h), X.2.2).1 5 = nI h := by
    show upd X.2.1 5 (nI h) 5 = nI h
    exact upd_s
  have c0 : cnt (nI 0) = 0 := by decide +kernel
  refine ⟨fun k _ hk => by rw [f11]; exact hs_z hk, by rw [f10, f11, c0], f9, f8.trans g5.symm, ?_, ⟨⟨(g 6 (by omega)).trans c3, by omega, fun q hq => absurd hq (by omega)⟩, ⟨h, hh, g5⟩, fun j hj => absurd hj (by omega)⟩, ?_, fun k _ hk => ?_⟩
  · exact ⟨fun c hc => (z c (by omega)).trans (c9 c hc).1.symm, fun c hc => (z _ (by omega)).trans (c9 c hc).2.1.symm, fun c hc => (z _ (by omega)).trans (c9 c hc).2.2.1.symm, fun c hc => (z _ (by omega)).trans (c9 c hc).2.2.2.symm, fun j hj => absurd hj (by omega),
      (z _ (by omega)).trans ((g 9 (by omega)).trans c6).symm, (z _ (by omega)).trans ((g 8 (by omega)).trans c5).symm, (z _ (by omega)).trans ((g 10 (by omega)).trans c7).symm, (z _ (by omega)).trans ((g 11 (by omega)).trans c8).symm⟩
  · exact ⟨(g 9 (by omega)).trans c6, (g 8 (by omega)).trans c5, (g 10 (by omega)).trans c7, (g 11 (by omega)).trans c8, fun c hc => ⟨0, by omega, (c9 c hc).1⟩, fun c hc => ⟨0, by omega, (c9 c hc).2.1⟩, fun c hc => ⟨0, by omega, (c9 c hc).2.2.1⟩, fun c hc => (c9 c hc).2.2.2⟩
  · rw [g 7 (by omega), c4]; exact hs_z hk
set_option maxHeartbeats 4000000 in
set_option maxRecDepth 100000 in
theorem P_X3_readMine_41 {m len : Nat} (hX : XM G T R m) {F W V : Nat → Int32} (hlen : F 2 = nI len) (h72 : len ≤ 72) (htx : ∀ j, j < len → ∃ q, q < 256 ∧ I (m + 1) j = nI q) {X : xRd} (hC : Cl X) :
    xV G Y_X3_readMine T (T, fun o2 R2 L2 I2 => ∃ r, o2 = some (.int r) ∧ (r = (rLoop (I (m + 1)) len 0 X).1 ∧ R2 = R ∧ L2 = L ∧ ∃ F' W' V', I2 = rM I m F' W' V' ∧ KF (F) F' ∧ (r = -9 → ∃ mo', RR mo' (rLoop (I (m + 1)) len 0 X).2.2 F' W' V'))) 41 [some (.ref m), some (.int (nI 58))] [] T R L (rM I m (upd (upd (upd (upd F 3 (nI 0)) 9 (nI 0)) 10 (nI 0)) 11 (nI 0)) (zP W 58) V) := by
  obtain ⟨m0, rt, st, rs, ss, rp, sp, rrp, srp, rrs, srs, rb, sb, rk, sk, ri, si, rc, sc, rv, sv, rr, sr⟩ := id hX
  have H1 := rd_head (txt := (I (m + 1))) (len := len) (X := X) (told := nI 0) (pl := X.1 3) (S := X.2) ⟨hC.1, hC.2.1, rfl, rfl⟩
  cases hH : okF (I (m + 1)) len (nI 1) (nI 9) 1
  · have k0 : True := trivial
    refine xV_aload_n e_X3_readMine_41 rfl ?_
    refine xV_getQ e_X3_readMine_42 f_X3_62 m0 ?_
    rw [upd_n (by omega), upd_n (by omega), upd_n (by omega), upd_n (by omega), hlen]
    refine xV_if_eq e_X3_readMine_45 (fun h45 => ?_) (fun h45 => ?_)
    · have hl0 : len = 0 := (nI_eq (by omega) (by decide)).mp (h45.trans nI_0.symm)
      refine xV_iconst (v := (nI 0)) e_X3_readMine_59 (by decide) ?_
      exact xV_ireturn e_X3_readMine_60 rfl rfl ⟨_, rfl, (H1.1 (Or.inl hl0)).symm, rfl, rfl, _, _, V, rfl, ((((KF.rf.up (k := 3) (by omega)).up (k := 9) (by omega)).up (k := 10) (by omega)).up (k := 11) (by omega)), fun z => absurd z (by decide)⟩
    · have hl0 : len ≠ 0 := fun z => h45 (by rw [z]; exact nI_0)
      refine xV_aload_n e_X3_readMine_48 rfl ?_
      refine xV_getR e_X3_readMine_49 f_X3_7 (by assumption) (by assumption) ?_
      refine xV_iconst (v := (nI 0)) e_X3_readMine_52 (by decide) ?_
      refine xV_ialdN e_X3_readMine_53 (by exact xRow.q1 (by assumption)) (by omega) (by omega) ?_
      refine xV_bipush (v := (nI 77)) e_X3_readMine_54 (by decide) ?_
      refine xV_icmp_eq e_X3_readMine_56 (fun h56 => ?_) (fun h56 => ?_)
      · obtain ⟨X1, s1, e1⟩ := H1.2 (by omega) h56
        have H2 := rd_hold (txt := (I (m + 1))) (len := len) (p := 1) (by omega) htx s1
        refine xV_aload_n e_X3_readMine_61 rfl ?_
        refine xV_iconst (v := (nI 1)) e_X3_readMine_62 (by decide) ?_
        refine xV_putQ e_X3_readMine_63 p_X3_65 m0 ?_
        refine xV_aload_n e_X3_readMine_66 rfl ?_
        refine xV_aload_n e_X3_readMine_67 rfl ?_
        refine xV_iconst (v := (nI 1)) e_X3_readMine_68 (by decide) ?_
        refine xV_bipush (v := (nI 9)) e_X3_readMine_69 (by decide) ?_
        refine xV_cV2i e_X3_readMine_71 c_X3_81 (by assumption) (C_X3_figure (p := 1) hX (by rw [upd_n (by omega), upd_n (by omega), upd_n (by omega), upd_n (by omega), upd_n (by omega)]; exact hlen) h72 upd_s (by omega)) (Nat.le_of_ble_eq_true rfl) ⟨(Nat.le_of_ble_eq_true rfl), (Nat.le_of_ble_eq_true rfl)⟩ (xle_r _) (xle_r _) ?_
        rw [if_neg (bl_f hH), if_neg (bl_f hH)]
        refine xV_putQ e_X3_readMine_74 p_X3_98 m0 ?_
        refine xV_aload_n e_X3_readMine_77 rfl ?_
        refine xV_getQ e_X3_readMine_78 f_X3_98 m0 ?_
        rw [upd_s]
        refine xV_bipush (v := (-9)) e_X3_readMine_81 (by decide) ?_
        refine xV_icmp_ne e_X3_readMine_83 (fun h83 => ?_) (fun h83 => ?_)
        · exact absurd rfl h83
        · refine xV_iconst (v := (nI 1)) e_X3_readMine_86 (by decide) ?_
          exact xV_ireturn e_X3_readMine_87 rfl rfl ⟨_, rfl, (by rw [e1]; exact (H2.1 hH).symm), rfl, rfl, _, _, V, rfl, (((((KF.rf.up (k := 3) (by omega)).up (k := 9) (by omega)).up (k := 10) (by omega)).up (k := 11) (by omega)).up (k := 3) (by omega)).up (k := 8) (by omega), fun z => absurd z (by decide)⟩
      · refine xV_iconst (v := (nI 0)) e_X3_readMine_59 (by decide) ?_
        exact xV_ireturn e_X3_readMine_60 rfl rfl ⟨_, rfl, (H1.1 (Or.inr h56)).symm, rfl, rfl, _, _, V, rfl, ((((KF.rf.up (k := 3) (by omega)).up (k := 9) (by omega)).up (k := 10) (by omega)).up (k := 11) (by omega)), fun z => absurd z (by decide)⟩
  · have hHv : ∃ d, d ≤ 9 ∧ I (m + 1) 1 - nI 48 = nI d := by
      obtain ⟨j, j1, j2, ej⟩ := bL_j (by decide) (by decide) (okF_d hH).2
      exact ⟨j, j2, ej⟩
    have hH9 : ¬ I (m + 1) 1 - nI 48 = -9 := by
      obtain ⟨d, hd, ed⟩ := hHv
      rw [ed]; exact ne9 (by omega)
    refine xV_aload_n e_X3_readMine_41 rfl ?_
    refine xV_getQ e_X3_readMine_42 f_X3_62 m0 ?_
    rw [upd_n (by omega), upd_n (by omega), upd_n (by omega), upd_n (by omega), hlen]
    refine xV_if_eq e_X3_readMine_45 (fun h45 => ?_) (fun h45 => ?_)
    · have hl0 : len = 0 := (nI_eq (by omega) (by decide)).mp (h45.trans nI_0.symm)
      refine xV_iconst (v := (nI 0)) e_X3_readMine_59 (by decide) ?_
      exact xV_ireturn e_X3_readMine_60 rfl rfl ⟨_, rfl, (H1.1 (Or.inl hl0)).symm, rfl, rfl, _, _, V, rfl, ((((KF.rf.up (k := 3) (by omega)).up (k := 9) (by omega)).up (k := 10) (by omega)).up (k := 11) (by omega)), fun z => absurd z (by decide)⟩
    · have hl0 : len ≠ 0 := fun z => h45 (by rw [z]; exact nI_0)
      refine xV_aload_n e_X3_readMine_48 rfl ?_
      refine xV_getR e_X3_readMine_49 f_X3_7 (by assumption) (by assumption) ?_
      refine xV_iconst (v := (nI 0)) e_X3_readMine_52 (by decide) ?_
      refine xV_ialdN e_X3_readMine_53 (by exact xRow.q1 (by assumption)) (by omega) (by omega) ?_
      refine xV_bipush (v := (nI 77)) e_X3_readMine_54 (by decide) ?_
      refine xV_icmp_eq e_X3_readMine_56 (fun h56 => ?_) (fun h56 => ?_)
      · obtain ⟨X1, s1, e1⟩ := H1.2 (by omega) h56
        have H2 := rd_hold (txt := (I (m + 1))) (len := len) (p := 1) (by omega) htx s1
        refine xV_aload_n e_X3_readMine_61 rfl ?_
        refine xV_iconst (v := (nI 1)) e_X3_readMine_62 (by decide) ?_
        refine xV_putQ e_X3_readMine_63 p_X3_65 m0 ?_
        refine xV_aload_n e_X3_readMine_66 rfl ?_
        refine xV_aload_n e_X3_readMine_67 rfl ?_
        refine xV_iconst (v := (nI 1)) e_X3_readMine_68 (by decide) ?_
        refine xV_bipush (v := (nI 9)) e_X3_readMine_69 (by decide) ?_
        refine xV_cV2i e_X3_readMine_71 c_X3_81 (by assumption) (C_X3_figure (p := 1) hX (by rw [upd_n (by omega), upd_n (by omega), upd_n (by omega), upd_n (by omega), upd_n (by omega)]; exact hlen) h72 upd_s (by omega)) (Nat.le_of_ble_eq_true rfl) ⟨(Nat.le_of_ble_eq_true rfl), (Nat.le_of_ble_eq_true rfl)⟩ (xle_r _) (xle_r _) ?_
        rw [if_pos hH, if_pos hH, upd_twice]
        refine xV_putQ e_X3_readMine_74 p_X3_98 m0 ?_
        refine xV_aload_n e_X3_readMine_77 rfl ?_
        refine xV_getQ e_X3_readMine_78 f_X3_98 m0 ?_
        rw [upd_s]
        refine xV_bipush (v := (-9)) e_X3_readMine_81 (by decide) ?_
        refine xV_icmp_ne e_X3_readMine_83 (fun h83 => ?_) (fun h83 => ?_)
        · obtain ⟨X2, s2, e2⟩ := H2.2 hH
          obtain ⟨hd, hd9, ehd⟩ := hHv
          have g := P_X3_readMine_88 (I := I) (L := L) hX h72 len (1 + 1) (upd (upd (upd (upd (upd (upd F 3 (nI 0)) 9 (nI 0)) 10 (nI 0)) 11 (nI 0)) 3 (nI (1 + 1))) 8 (I (m + 1) 1 - nI 48)) (zP W 58) V 0 X2 _ _ (some (.int (nI 58))) (by omega) (by rw [upd_n (by omega), upd_n (by omega), upd_n (by omega), upd_n (by omega), upd_n (by omega), upd_n (by omega)]; exact hlen) (by rw [upd_n (by omega), upd_s]) (by have := (okF_d hH).1; omega)
            (by rw [ehd]; exact RR.cl (h := hd) hC hd9 (by rw [upd_n (by omega), upd_n (by omega), upd_s]) (by rw [upd_n (by omega), upd_n (by omega), upd_n (by omega), upd_s]) (by rw [upd_n (by omega), upd_n (by omega), upd_n (by omega), upd_n (by omega), upd_s]) (by rw [upd_s])) (by rw [upd_n (by omega), upd_n (by omega), upd_s]; rw [ehd] at s2; exact s2)
          rw [e1, e2]
          exact P_X3_readMine_w ((((((KF.rf.up (k := 3) (by omega)).up (k := 9) (by omega)).up (k := 10) (by omega)).up (k := 11) (by omega)).up (k := 3) (by omega)).up (k := 8) (by omega)) g
        · exact absurd h83 hH9
      · refine xV_iconst (v := (nI 0)) e_X3_readMine_59 (by decide) ?_
        exact xV_ireturn e_X3_readMine_60 rfl rfl ⟨_, rfl, (H1.1 (Or.inr h56)).symm, rfl, rfl, _, _, V, rfl, ((((KF.rf.up (k := 3) (by omega)).up (k := 9) (by omega)).up (k := 10) (by omega)).up (k := 11) (by omega)), fun z => absurd z (by decide)⟩
set_option maxHeartbeats 4000000 in
set_option maxRecDepth 100000 in
theorem K_readMine {m len : Nat} (hX : XM G T R m) (hlen : I m 2 = nI len) (h72 : len ≤ 72) (htx : ∀ j, j < len → ∃ q, q < 256 ∧ I (m + 1) j = nI q) {X : xRd} (hC : Cl X) : xCon G Y_X3_readMine [.ref m] T R L I (T, fun o2 R2 L2 I2 => ∃ r, o2 = some (.int r) ∧ (r = (rLoop (I (m + 1)) len 0 X).1 ∧ R2 = R ∧ L2 = L ∧ ∃ F' W' V', I2 = rM I m F' W' V' ∧ KF (I m) F' ∧ (r = -9 → ∃ mo', RR mo' (rLoop (I (m + 1)) len 0 X).2.2 F' W' V'))) := by
  obtain ⟨m0, rt, st, rs, ss, rp, sp, rrp, srp, rrs, srs, rb, sb, rk, sk, ri, si, rc, sc, rv, sv, rr, sr⟩ := id hX
  have key : xCon G Y_X3_readMine [.ref m] T R L (rM I m (I m) (I (m + 4)) (I (m + 5))) (T, fun o2 R2 L2 I2 => ∃ r, o2 = some (.int r) ∧ (r = (rLoop (I (m + 1)) len 0 X).1 ∧ R2 = R ∧ L2 = L ∧ ∃ F' W' V', I2 = rM I m F' W' V' ∧ KF (I m) F' ∧ (r = -9 → ∃ mo', RR mo' (rLoop (I (m + 1)) len 0 X).2.2 F' W' V'))) := by
    refine xCon.mk (xl := [some (.ref m), none]) (by decide +kernel) (xle_r _) rfl (Nat.le_of_ble_eq_true rfl) rfl ?_
    refine xV_aload_n e_X3_readMine_0 rfl ?_
    refine xV_iconst (v := (nI 0)) e_X3_readMine_1 (by decide) ?_
    refine xV_putQ e_X3_readMine_2 p_X3_65 m0 ?_
    refine xV_aload_n e_X3_readMine_5 rfl ?_
    refine xV_iconst (v := (nI 0)) e_X3_readMine_6 (by decide) ?_
    refine xV_putQ e_X3_readMine_7 p_X3_88 m0 ?_
    refine xV_aload_n e_X3_readMine_10 rfl ?_
    refine xV_iconst (v := (nI 0)) e_X3_readMine_11 (by decide) ?_
    refine xV_putQ e_X3_readMine_12 p_X3_85 m0 ?_
    refine xV_aload_n e_X3_readMine_15 rfl ?_
    refine xV_iconst (v := (nI 0)) e_X3_readMine_16 (by decide) ?_
    refine xV_putQ e_X3_readMine_17 p_X3_74 m0 ?_
    refine xV_iconst (v := (nI 0)) e_X3_readMine_20 (by decide) ?_
    refine xV_istore_n e_X3_readMine_21 (Nat.le_of_ble_eq_true rfl) rfl ?_
    have g := P_X3_readMine_22 (I := I) (L := L) (F := (upd (upd (upd (upd (I m) 3 (nI 0)) 9 (nI 0)) 10 (nI 0)) 11 (nI 0))) (W := I (m + 4)) (V := I (m + 5)) hX (by rfl) (P_X3_readMine_41 hX hlen h72 htx hC) 0 (Nat.zero_le _)
    rw [zP_0] at g
    exact g
  rwa [rM_self] at key
set_option maxHeartbeats 4000000 in
set_option maxRecDepth 100000 in
theorem K_fault {m len : Nat} (hX : XM G T R m) (hlen : I m 2 = nI len) (h72 : len ≤ 72) (htx : ∀ j, j < len → ∃ q, q < 256 ∧ I (m + 1) j = nI q) {X : xRd} (hC : Cl X) (h0 : I m 0 = nI 0) : xCon G Y_X3_fault [.ref m] T R L I ((T, fun o2 R2 L2 I2 => ∃ r, o2 = some (.int r) ∧ (r = (rLoop (I (m + 1)) len 0 X).1 ∧ R2 = R ∧ L2 = L ∧ ∃ F' W' V', I2 = rM I m F' W' V' ∧ KF (I m) F' ∧ (r = -9 → ∃ mo', RR mo' (rLoop (I (m + 1)) len 0 X).2.2 F' W' V')))) := by
  obtain ⟨m0, rt, st, rs, ss, rp, sp, rrp, srp, rrs, srs, rb, sb, rk, sk, ri, si, rc, sc, rv, sv, rr, sr⟩ := id hX
  refine xCon.mk (xl := [some (.ref m)]) (by decide +kernel) (xle_r _) rfl (Nat.le_of_ble_eq_true rfl) rfl ?_
  refine xV_aload_n e_X3_fault_0 rfl ?_
  refine xV_iconst (v := (nI 0)) e_X3_fault_1 (by decide) ?_
  refine xV_putI e_X3_fault_2 p_X3_48 (by assumption) ?_
  rw [xst_own h0]
  refine xV_aload_n e_X3_fault_5 rfl ?_
  refine xV_cV0iP e_X3_fault_6 c_X3_104 (by assumption) (K_readMine hX hlen h72 htx hC) (Nat.le_of_ble_eq_true rfl) ⟨(Nat.le_of_ble_eq_true rfl), (Nat.le_of_ble_eq_true rfl)⟩ (xle_r _) (xle_r _) (fun r2 R2 L2 J hq => ?_)
  obtain ⟨rfl, rfl, rfl, hF⟩ := hq
  exact xV_ireturn e_X3_fault_9 rfl rfl ⟨_, rfl, rfl, rfl, rfl, hF⟩
/-- the mine taken: what the Model's memory is behind it -/
def tkM (J : xI) (m mo : Nat) : xI := xst (xst (xst (va_up (va_up (xst (xst J m 4 (J m 8)) m 5 (nI mo)) (m + 3) (cpB (J (m + 4)) (J (m + 3)) 58)) (m + 2) (cpB (J (m + 5)) (J (m + 2)) mo)) m 16 (nI 0)) (m + 8) 0 (nI 0)) (m + 8) 1 (nI 0)
set_option maxHeartbeats 4000000 in
set_option maxRecDepth 100000 in
theorem P_X3_mine_35 {m : Nat} (hX : XM G T R m) {P : Nat → Int32} {o : xO} (ho : o.1 = T) (hout : xV G Y_X3_mine T o 59 [some (.ref m), some (.int (nI 58))] [] T R L (va_up I (m + 3) (cpB (I (m + 4)) P 58))) : ∀ k, k ≤ 58 → xV G Y_X3_mine T o 35 [some (.ref m), some (.int (nI k))] [] T R L (va_up I (m + 3) (cpB (I (m + 4)) P k)) := by
  obtain ⟨m0, rt, st, rs, ss, rp, sp, rrp, srp, rrs, srs, rb, sb, rk, sk, ri, si, rc, sc, rv, sv, rr, sr⟩ := id hX
  obtain ⟨oT, oP⟩ := o
  subst ho
  refine xloop 58 (fun k hk0 ih => ?_)
  refine xV_iload_n e_X3_mine_35 rfl ?_
  refine xV_bipush (v := (nI 58)) e_X3_mine_36 (by decide) ?_
  refine xV_icmp_geN e_X3_mine_38 (by omega) (by omega) (fun h38 => ?_) (fun h38 => ?_)
  · obtain rfl : k = 58 := by omega
    exact hout
  · refine xV_aload_n e_X3_mine_41 rfl ?_
    refine xV_getR e_X3_mine_42 f_X3_20 (by assumption) (by assumption) ?_
    refine xV_iload_n e_X3_mine_45 rfl ?_
    refine xV_aload_n e_X3_mine_46 rfl ?_
    refine xV_getR e_X3_mine_47 f_X3_23 (by assumption) (by assumption) ?_
    refine xV_iload_n e_X3_mine_50 rfl ?_
    refine xV_ialdN e_X3_mine_51 (by first | exact xRow.vp (by assumption) | exact xRow.vo (by omega) (by assumption)) (by omega) (by omega) ?_
    refine xV_iastP e_X3_mine_52 (by assumption) (by omega) (by omega) ?_
    refine xV_iincN e_X3_mine_53 rfl rfl ?_
    refine xV_goto e_X3_mine_56 ?_
    rw [cpB_s]
    exact ih (by omega)
set_option maxHeartbeats 4000000 in
set_option maxRecDepth 100000 in
theorem P_X3_mine_61 {m mo : Nat} (hX : XM G T R m) (hmo : I m 5 = nI mo) (hm4 : mo ≤ 4) {P : Nat → Int32} {o : xO} (ho : o.1 = T) (hout : xV G Y_X3_mine T o 87 [some (.ref m), some (.int (nI mo))] [] T R L (va_up I (m + 2) (cpB (I (m + 5)) P mo))) : ∀ k, k ≤ mo → xV G Y_X3_mine T o 61 [some (.ref m), some (.int (nI k))] [] T R L (va_up I (m + 2) (cpB (I (m + 5)) P k)) := by
  obtain ⟨m0, rt, st, rs, ss, rp, sp, rrp, srp, rrs, srs, rb, sb, rk, sk, ri, si, rc, sc, rv, sv, rr, sr⟩ := id hX
  obtain ⟨oT, oP⟩ := o
  subst ho
  refine xloop mo (fun k hk0 ih => ?_)
  refine xV_iload_n e_X3_mine_61 rfl ?_
  refine xV_aload_n e_X3_mine_62 rfl ?_
  refine xV_getMO e_X3_mine_63 f_X3_51 m0 (by omega) hmo ?_
  refine xV_icmp_geN e_X3_mine_66 (by omega) (by omega) (fun h66 => ?_) (fun h66 => ?_)
  · obtain rfl : k = mo := by omega
    exact hout
  · refine xV_aload_n e_X3_mine_69 rfl ?_
    refine xV_getR e_X3_mine_70 f_X3_17 (by assumption) (by assumption) ?_
    refine xV_iload_n e_X3_mine_73 rfl ?_
    refine xV_aload_n e_X3_mine_74 rfl ?_
    refine xV_getR e_X3_mine_75 f_X3_26 (by assumption) (by assumption) ?_
    refine xV_iload_n e_X3_mine_78 rfl ?_
    refine xV_ialdN e_X3_mine_79 (by first | exact xRow.vp (by assumption) | exact xRow.vo (by omega) (by assumption)) (by omega) (by omega) ?_
    refine xV_iastP e_X3_mine_80 (by assumption) (by omega) (by omega) ?_
    refine xV_iincN e_X3_mine_81 rfl rfl ?_
    refine xV_goto e_X3_mine_84 ?_
    rw [cpB_s]
    exact ih (by omega)
set_option maxHeartbeats 4000000 in
set_option maxRecDepth 100000 in
theorem P_X3_mine_87 {m mo : Nat} (hX : XM G T R m) {J : xI} {o : xO} (ho : o.1 = T) {j1 : Option Value} (hfin : o.2 (some (.int (nI mo))) R L (tkM J m mo)) :
    xV G Y_X3_mine T o 87 [some (.ref m), j1] [] T R L (va_up (va_up (xst (xst J m 4 (J m 8)) m 5 (nI mo)) (m + 3) (cpB (J (m + 4)) (J (m + 3)) 58)) (m + 2) (cpB (J (m + 5)) (J (m + 2)) mo)) := by
  obtain ⟨m0, rt, st, rs, ss, rp, sp, rrp, srp, rrs, srs, rb, sb, rk, sk, ri, si, rc, sc, rv, sv, rr, sr⟩ := id hX
  obtain ⟨oT, oP⟩ := o
  subst ho
  refine xV_aload_n e_X3_mine_87 rfl ?_
  refine xV_iconst (v := (nI 0)) e_X3_mine_88 (by decide) ?_
  refine xV_putI e_X3_mine_89 p_X3_108 (by assumption) ?_
  refine xV_aload_n e_X3_mine_92 rfl ?_
  refine xV_getR e_X3_mine_93 f_X3_35 (by assumption) (by assumption) ?_
  refine xV_iconst (v := (nI 0)) e_X3_mine_96 (by decide) ?_
  refine xV_iconst (v := (nI 0)) e_X3_mine_97 (by decide) ?_
  refine xV_bastN e_X3_mine_98 (by assumption) (by omega) (by omega) rfl ?_
  refine xV_aload_n e_X3_mine_99 rfl ?_
  refine xV_getR e_X3_mine_100 f_X3_35 (by assumption) (by assumption) ?_
  refine xV_iconst (v := (nI 1)) e_X3_mine_103 (by decide) ?_
  refine xV_iconst (v := (nI 0)) e_X3_mine_104 (by decide) ?_
  refine xV_bastN e_X3_mine_105 (by assumption) (by omega) (by omega) rfl ?_
  refine xV_aload_n e_X3_mine_106 rfl ?_
  refine xV_getI e_X3_mine_107 f_X3_51 m0 ?_
  rw [xst_o (by omega), xst_o (by omega), xst_s, upd_n (by omega), va_up_n (by omega), va_up_n (by omega), xst_s, upd_s]
  exact xV_ireturn e_X3_mine_110 rfl rfl hfin
set_option maxHeartbeats 4000000 in
set_option maxRecDepth 100000 in
theorem P_X3_mine_59 {m mo : Nat} (hX : XM G T R m) (hm4 : mo ≤ 4) {J : xI} {o : xO} (ho : o.1 = T) {j1 : Option Value} (hfin : o.2 (some (.int (nI mo))) R L (tkM J m mo)) :
    xV G Y_X3_mine T o 59 [some (.ref m), j1] [] T R L (va_up (xst (xst J m 4 (J m 8)) m 5 (nI mo)) (m + 3) (cpB (J (m + 4)) (J (m + 3)) 58)) := by
  obtain ⟨m0, rt, st, rs, ss, rp, sp, rrp, srp, rrs, srs, rb, sb, rk, sk, ri, si, rc, sc, rv, sv, rr, sr⟩ := id hX
  refine xV_iconst (v := (nI 0)) e_X3_mine_59 (by decide) ?_
  refine xV_istore_n e_X3_mine_60 (Nat.le_of_ble_eq_true rfl) rfl ?_
  have g := P_X3_mine_61 (L := L) (I := va_up (xst (xst J m 4 (J m 8)) m 5 (nI mo)) (m + 3) (cpB (J (m + 4)) (J (m + 3)) 58)) (P := J (m + 2)) (o := o) hX (by rw [va_up_n (by omega), xst_s, upd_s]) hm4 ho ?_ 0 (Nat.zero_le _)
  · rw [cpB_0, show va_up (va_up (xst (xst J m 4 (J m 8)) m 5 (nI mo)) (m + 3) (cpB (J (m + 4)) (J (m + 3)) 58)) (m + 2) (J (m + 2)) = va_up (xst (xst J m 4 (J m 8)) m 5 (nI mo)) (m + 3) (cpB (J (m + 4)) (J (m + 3)) 58) from va_own (by rw [va_up_n (by omega), xst_o (by omega), xst_o (by omega)])] at g
    exact g
  rw [show va_up (xst (xst J m 4 (J m 8)) m 5 (nI mo)) (m + 3) (cpB (J (m + 4)) (J (m + 3)) 58) (m + 5) = J (m + 5) from by rw [va_up_n (by omega), xst_o (by omega), xst_o (by omega)]]
  exact P_X3_mine_87 hX ho hfin
set_option maxHeartbeats 4000000 in
set_option maxRecDepth 100000 in
theorem K_mine {m len : Nat} (hX : XM G T R m) (hlen : I m 2 = nI len) (h72 : len ≤ 72) (htx : ∀ j, j < len → ∃ q, q < 256 ∧ I (m + 1) j = nI q) {X : xRd} (hC : Cl X) (h0 : I m 0 = nI 0) : xCon G Y_X3_mine [.ref m] T R L I (T, fun o2 R2 L2 I2 => ∃ r, o2 = some (.int r) ∧ (R2 = R ∧ L2 = L ∧ ∃ F' W' V', KF (I m) F' ∧ ((¬ (rLoop (I (m + 1)) len 0 X).1 = -9 ∧ r = -3 ∧ I2 = rM I m F' W' V') ∨ ((rLoop (I (m + 1)) len 0 X).1 = -9 ∧ ∃ mo, RR mo (rLoop (I (m + 1)) len 0 X).2.2 F' W' V' ∧ r = nI mo ∧ I2 = tkM (rM I m F' W' V') m mo)))) := by
  obtain ⟨m0, rt, st, rs, ss, rp, sp, rrp, srp, rrs, srs, rb, sb, rk, sk, ri, si, rc, sc, rv, sv, rr, sr⟩ := id hX
  refine xCon.mk (xl := [some (.ref m), none]) (by decide +kernel) (xle_r _) rfl (Nat.le_of_ble_eq_true rfl) rfl ?_
  refine xV_aload_n e_X3_mine_0 rfl ?_
  refine xV_iconst (v := (nI 0)) e_X3_mine_1 (by decide) ?_
  refine xV_putI e_X3_mine_2 p_X3_48 (by assumption) ?_
  rw [xst_own h0]
  refine xV_aload_n e_X3_mine_5 rfl ?_
  refine xV_cV0iP e_X3_mine_6 c_X3_104 (by assumption) (K_readMine hX hlen h72 htx hC) (Nat.le_of_ble_eq_true rfl) ⟨(Nat.le_of_ble_eq_true rfl), (Nat.le_of_ble_eq_true rfl)⟩ (xle_r _) (xle_r _) (fun r2 R2 L2 J hq => ?_)
  obtain ⟨hr, rfl, rfl, F', W', V', rfl, hk, h9⟩ := hq
  refine xV_bipush (v := (-9)) e_X3_mine_9 (by decide) ?_
  refine xV_icmp_eq e_X3_mine_11 (fun h11 => ?_) (fun h11 => ?_)
  · obtain ⟨mo, hRR⟩ := h9 h11
    have hm4 := hRR.2.2.2.2.2.1.1.2.1
    refine xV_aload_n e_X3_mine_17 rfl ?_
    refine xV_aload_n e_X3_mine_18 rfl ?_
    refine xV_getI e_X3_mine_19 f_X3_98 m0 ?_
    rw [show (rM I m F' W' V') m 8 = (rM I m F' W' V') m 8 from rfl]
    refine xV_putI e_X3_mine_22 p_X3_13 (by assumption) ?_
    refine xV_aload_n e_X3_mine_25 rfl ?_
    refine xV_aload_n e_X3_mine_26 rfl ?_
    refine xV_getI e_X3_mine_27 f_X3_88 m0 ?_
    rw [show xst (rM I m F' W' V') m 4 ((rM I m F' W' V') m 8) m 9 = nI mo from by rw [xst_s, upd_n (by omega), rM_m]; exact hRR.2.2.1]
    refine xV_putI e_X3_mine_30 p_X3_51 (by assumption) ?_
    refine xV_iconst (v := (nI 0)) e_X3_mine_33 (by decide) ?_
    refine xV_istore_n e_X3_mine_34 (Nat.le_of_ble_eq_true rfl) rfl ?_
    have a5 : xst (xst (rM I m F' W' V') m 4 ((rM I m F' W' V') m 8)) m 5 (nI mo) m 5 = nI mo := by rw [xst_s, upd_s]
    have b4 : xst (xst (rM I m F' W' V') m 4 ((rM I m F' W' V') m 8)) m 5 (nI mo) (m + 4) = (rM I m F' W' V') (m + 4) := by rw [xst_o (by omega), xst_o (by omega)]
    have b5 : xst (xst (rM I m F' W' V') m 4 ((rM I m F' W' V') m 8)) m 5 (nI mo) (m + 5) = (rM I m F' W' V') (m + 5) := by rw [xst_o (by omega), xst_o (by omega)]
    have b3 : xst (xst (rM I m F' W' V') m 4 ((rM I m F' W' V') m 8)) m 5 (nI mo) (m + 3) = (rM I m F' W' V') (m + 3) := by rw [xst_o (by omega), xst_o (by omega)]
    have b2 : xst (xst (rM I m F' W' V') m 4 ((rM I m F' W' V') m 8)) m 5 (nI mo) (m + 2) = (rM I m F' W' V') (m + 2) := by rw [xst_o (by omega), xst_o (by omega)]
    have g := P_X3_mine_35 (L := L2) (I := xst (xst (rM I m F' W' V') m 4 ((rM I m F' W' V') m 8)) m 5 (nI mo)) (P := (rM I m F' W' V') (m + 3)) (o := (T, fun o2 R3 L3 I2 => ∃ r, o2 = some (.int r) ∧ (R3 = R2 ∧ L3 = L2 ∧ ∃ F' W' V', KF (I m) F' ∧ ((¬ (rLoop (I (m + 1)) len 0 X).1 = -9 ∧ r = -3 ∧ I2 = rM I m F' W' V') ∨ ((rLoop (I (m + 1)) len 0 X).1 = -9 ∧ ∃ mo, RR mo (rLoop (I (m + 1)) len 0 X).2.2 F' W' V' ∧ r = nI mo ∧ I2 = tkM (rM I m F' W' V') m mo))))) hX (by rfl) ?_ 0 (Nat.zero_le _)
    · rw [cpB_0, ← b3, va_up_own] at g
      exact g
    rw [b4]
    exact P_X3_mine_59 (J := (rM I m F' W' V')) hX hm4 (by rfl) ⟨_, rfl, rfl, rfl, F', W', V', hk, Or.inr ⟨hr.symm.trans h11, mo, hRR, rfl, rfl⟩⟩
  · refine xV_bipush (v := (-3)) e_X3_mine_14 (by decide) ?_
    exact xV_ireturn e_X3_mine_16 rfl rfl ⟨_, rfl, rfl, rfl, F', W', V', hk, Or.inl ⟨fun z => h11 (hr.trans z), rfl, rfl⟩⟩
end XMP
