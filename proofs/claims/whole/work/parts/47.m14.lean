/-! THE MODEL: the text read -/
section XMN
variable {G : xG} {T : xT} {R : xR} {L : xL} {I : xI}
def rM (I : xI) (m : Nat) (F W V : Nat → Int32) : xI := va_up (va_up (va_up I m F) (m + 4) W) (m + 5) V
section RQ
variable {Y : xY} {Tb : xT} {o : xO} {pc pc' idx : Nat} {xl : List (Option Value)} {st : List Value} {m : Nat} {F W V : Nat → Int32}
theorem rM_m : rM I m F W V m = F := by unfold rM; rw [va_up_n (by omega), va_up_n (by omega), va_up_s]
theorem rM_4 : rM I m F W V (m + 4) = W := by unfold rM; rw [va_up_n (by omega), va_up_s]
theorem rM_5 : rM I m F W V (m + 5) = V := by unfold rM; rw [va_up_s]
theorem rM_o {a : Nat} (h : a ≠ m) (h4 : a ≠ m + 4) (h5 : a ≠ m + 5) : rM I m F W V a = I a := by unfold rM; rw [va_up_n h5, va_up_n h4, va_up_n h]
theorem rM_self : rM I m (I m) (I (m + 4)) (I (m + 5)) = I := by
  unfold rM
  rw [va_up_own, va_up_own, va_up_own]
theorem rM_ext {J1 J2 : xI} (h : J1 m = J2 m) (h4 : J1 (m + 4) = J2 (m + 4)) (h5 : J1 (m + 5) = J2 (m + 5)) (ho : ∀ a, a ≠ m → a ≠ m + 4 → a ≠ m + 5 → J1 a = J2 a) : J1 = J2 := by
  funext a
  by_cases e : a = m
  · rw [e, h]
  · by_cases e4 : a = m + 4
    · rw [e4, h4]
    · by_cases e5 : a = m + 5
      · rw [e5, h5]
      · exact ho a e e4 e5
theorem rM_p {k : Nat} {v : Int32} : xst (rM I m F W V) m k v = rM I m (upd F k v) W V :=
  rM_ext (m := m) (by rw [xst_s, rM_m, rM_m]) (by rw [xst_o (by omega), rM_4, rM_4]) (by rw [xst_o (by omega), rM_5, rM_5]) (fun a h1 h2 h3 => by rw [xst_o h1, rM_o h1 h2 h3, rM_o h1 h2 h3])
theorem rM_p4 {k : Nat} {v : Int32} : xst (rM I m F W V) (m + 4) k v = rM I m F (upd W k v) V :=
  rM_ext (m := m) (by rw [xst_o (by omega), rM_m, rM_m]) (by rw [xst_s, rM_4, rM_4]) (by rw [xst_o (by omega), rM_5, rM_5]) (fun a h1 h2 h3 => by rw [xst_o h2, rM_o h1 h2 h3, rM_o h1 h2 h3])
theorem rM_p5 {k : Nat} {v : Int32} : xst (rM I m F W V) (m + 5) k v = rM I m F W (upd V k v) :=
  rM_ext (m := m) (by rw [xst_o (by omega), rM_m, rM_m]) (by rw [xst_o (by omega), rM_4, rM_4]) (by rw [xst_s, rM_5, rM_5]) (fun a h1 h2 h3 => by rw [xst_o h3, rM_o h1 h2 h3, rM_o h1 h2 h3])
theorem xRow.q1 (hs : xSh G T (m + 1) = (4, 72)) : xRow G T (rM I m F W V) (m + 1) 72 (I (m + 1)) := Or.inl ⟨hs, (rM_o (by omega) (by omega) (by omega)).symm⟩
theorem xV_getQ {k0 : Nat} (hd : decode Y.2.1 pc = .ok (.getfield idx, 3) ∧ pc + 3 = pc') (hf : xFL Y.1.cls idx 3 k0 0) (hs : (xSh G T m).1 = 3) (k : xV G Y Tb o pc' xl (.int (F k0) :: st) T R L (rM I m F W V)) : xV G Y Tb o pc xl (.ref m :: st) T R L (rM I m F W V) :=
  xV_getI hd hf hs (by rw [rM_m]; exact k)
theorem xV_putQ {k0 : Nat} {x : Int32} (hd : decode Y.2.1 pc = .ok (.putfield idx, 3) ∧ pc + 3 = pc') (hf : xFP Y.1.cls idx 3 k0 0 false .int) (hs : (xSh G T m).1 = 3) (k : xV G Y Tb o pc' xl st T R L (rM I m (upd F k0 x) W V)) : xV G Y Tb o pc xl (.int x :: .ref m :: st) T R L (rM I m F W V) :=
  xV_putI hd hf hs (by rw [rM_p]; exact k)
theorem xV_iastQ4 {n k : Nat} {x : Int32} (hd : decode Y.2.1 pc = .ok (.iastore, 1) ∧ pc + 1 = pc') (hs : xSh G T (m + 4) = (4, n)) (hk : k < n) (hn : n < 2 ^ 31) (kk : xV G Y Tb o pc' xl st T R L (rM I m F (upd W k x) V)) : xV G Y Tb o pc xl (.int x :: .int (nI k) :: .ref (m + 4) :: st) T R L (rM I m F W V) :=
  xV_iastN hd hs hk hn (by rw [rM_p4]; exact kk)
theorem xV_iastQ5 {n k : Nat} {x : Int32} (hd : decode Y.2.1 pc = .ok (.iastore, 1) ∧ pc + 1 = pc') (hs : xSh G T (m + 5) = (4, n)) (hk : k < n) (hn : n < 2 ^ 31) (kk : xV G Y Tb o pc' xl st T R L (rM I m F W (upd V k x))) : xV G Y Tb o pc xl (.int x :: .int (nI k) :: .ref (m + 5) :: st) T R L (rM I m F W V) :=
  xV_iastN hd hs hk hn (by rw [rM_p5]; exact kk)
end RQ
set_option maxHeartbeats 4000000 in
set_option maxRecDepth 100000 in
theorem C_X3_figure {m len p : Nat} (hX : XM G T R m) {F W V : Nat → Int32} (hlen : F 2 = nI len) (h72 : len ≤ 72) (hpl : F 3 = nI p) (hp : p ≤ len) {lo hi : Int32} : xCon G Y_X3_figure [.ref m, .int lo, .int hi] T R L (rM I m F W V) (xD (some (.int (if okF (I (m + 1)) len lo hi p = true then (I (m + 1)) p - nI 48 else (-9)))) T R L (rM I m (if okF (I (m + 1)) len lo hi p = true then upd F 3 (nI (p + 1)) else F) W V)) := by
  obtain ⟨m0, rt, st, rs, ss, rp, sp, rrp, srp, rrs, srs, rb, sb, rk, sk, ri, si, rc, sc, rv, sv, rr, sr⟩ := id hX
  refine xCon.mk (xl := [some (.ref m), some (.int lo), some (.int hi)]) (by decide +kernel) (xle_r _) rfl (Nat.le_of_ble_eq_true rfl) rfl ?_
  refine xV_aload_n e_X3_figure_0 rfl ?_
  refine xV_getQ e_X3_figure_1 f_X3_65 m0 ?_
  rw [hpl]
  refine xV_aload_n e_X3_figure_4 rfl ?_
  refine xV_getQ e_X3_figure_5 f_X3_62 m0 ?_
  rw [hlen]
  refine xV_icmp_eqN e_X3_figure_8 (by omega) (by omega) (fun h8 => ?_) (fun h8 => ?_)
  · have okn : okF (I (m + 1)) len lo hi p = false := by unfold okF; rw [decide_eq_false (by omega)]; rfl
    refine xV_bipush (v := (-9)) e_X3_figure_34 (by decide) ?_
    exact xV_ireturn e_X3_figure_36 rfl rfl ⟨by rw [if_neg (bl_f okn)], rfl, rfl, by rw [if_neg (bl_f okn)]⟩
  · have hlt : p < len := by omega
    refine xV_aload_n e_X3_figure_11 rfl ?_
    refine xV_getR e_X3_figure_12 f_X3_7 (by assumption) (by assumption) ?_
    refine xV_aload_n e_X3_figure_15 rfl ?_
    refine xV_getQ e_X3_figure_16 f_X3_65 m0 ?_
    rw [hpl]
    refine xV_ialdN e_X3_figure_19 (by exact xRow.q1 (by assumption)) (by omega) (by omega) ?_
    refine xV_bipush (v := (nI 48)) e_X3_figure_20 (by decide) ?_
    refine xV_isub e_X3_figure_22 ?_
    refine xV_i2l e_X3_figure_23 ?_
    refine xV_iload_n e_X3_figure_24 rfl ?_
    refine xV_i2l e_X3_figure_25 ?_
    refine xV_iload_n e_X3_figure_26 rfl ?_
    refine xV_i2l e_X3_figure_27 ?_
    refine xV_cS3i e_X3_figure_28 c_X3_54 (C_X3_in) (Nat.le_of_ble_eq_true rfl) ⟨(Nat.le_of_ble_eq_true rfl), (Nat.le_of_ble_eq_true rfl)⟩ (xle_r _) (xle_r _) ?_
    rw [bL_I]
    refine xV_if_neB e_X3_figure_31 (fun h31 => ?_) (fun h31 => ?_)
    · have oky : okF (I (m + 1)) len lo hi p = true := by unfold okF; rw [decide_eq_true hlt, Bool.true_and]; exact h31
      refine xV_aload_n e_X3_figure_37 rfl ?_
      refine xV_dup e_X3_figure_38 rfl ?_
      refine xV_getQ e_X3_figure_39 f_X3_65 m0 ?_
      rw [hpl]
      refine xV_iconst (v := (nI 1)) e_X3_figure_42 (by decide) ?_
      refine xV_iaddN e_X3_figure_43 ?_
      refine xV_putQ e_X3_figure_44 p_X3_65 m0 ?_
      refine xV_aload_n e_X3_figure_47 rfl ?_
      refine xV_getR e_X3_figure_48 f_X3_7 (by assumption) (by assumption) ?_
      refine xV_aload_n e_X3_figure_51 rfl ?_
      refine xV_getQ e_X3_figure_52 f_X3_65 m0 ?_
      rw [upd_s]
      refine xV_iconst (v := (nI 1)) e_X3_figure_55 (by decide) ?_
      refine xV_isub e_X3_figure_56 ?_
      rw [pk_sub (by omega), Nat.add_sub_cancel]
      refine xV_ialdN e_X3_figure_57 (by exact xRow.q1 (by assumption)) (by omega) (by omega) ?_
      refine xV_bipush (v := (nI 48)) e_X3_figure_58 (by decide) ?_
      refine xV_isub e_X3_figure_60 ?_
      exact xV_ireturn e_X3_figure_61 rfl rfl ⟨by rw [if_pos oky], rfl, rfl, by rw [if_pos oky]⟩
    · have okn : okF (I (m + 1)) len lo hi p = false := by unfold okF; rw [decide_eq_true hlt, Bool.true_and]; exact h31
      refine xV_bipush (v := (-9)) e_X3_figure_34 (by decide) ?_
      exact xV_ireturn e_X3_figure_36 rfl rfl ⟨by rw [if_neg (bl_f okn)], rfl, rfl, by rw [if_neg (bl_f okn)]⟩
set_option maxHeartbeats 4000000 in
set_option maxRecDepth 100000 in
theorem C_X3_readCellOf {m len p : Nat} (hX : XM G T R m) {F W V : Nat → Int32} (hlen : F 2 = nI len) (h72 : len ≤ 72) (hpl : F 3 = nI p) (hp : p ≤ len) {but : Int32} : xCon G Y_X3_readCellOf [.ref m, .int but] T R L (rM I m F W V) (xD (some (.int (if okT (I (m + 1)) len but p = true then (if okO (I (m + 1)) len but ((I (m + 1)) p - nI 48) (p + 1) = true then nI 10 * ((I (m + 1)) p - nI 48) + ((I (m + 1)) (p + 1) - nI 48) else (-9)) else (-9)))) T R L (rM I m (if okT (I (m + 1)) len but p = true then (if okO (I (m + 1)) len but ((I (m + 1)) p - nI 48) (p + 1) = true then upd F 3 (nI (p + 2)) else upd F 3 (nI (p + 1))) else F) W V)) := by
  obtain ⟨m0, rt, st, rs, ss, rp, sp, rrp, srp, rrs, srs, rb, sb, rk, sk, ri, si, rc, sc, rv, sv, rr, sr⟩ := id hX
  refine xCon.mk (xl := [some (.ref m), some (.int but), none, none, none]) (by decide +kernel) (xle_r _) rfl (Nat.le_of_ble_eq_true rfl) rfl ?_
  refine xV_aload_n e_X3_readCellOf_0 rfl ?_
  refine xV_getQ e_X3_readCellOf_1 f_X3_65 m0 ?_
  rw [hpl]
  refine xV_aload_n e_X3_readCellOf_4 rfl ?_
  refine xV_getQ e_X3_readCellOf_5 f_X3_62 m0 ?_
  rw [hlen]
  refine xV_icmp_geN e_X3_readCellOf_8 (by omega) (by omega) (fun h8 => ?_) (fun h8 => ?_)
  · refine xV_bipush (v := (-9)) e_X3_readCellOf_26 (by decide) ?_
    refine xV_istore_n e_X3_readCellOf_28 (Nat.le_of_ble_eq_true rfl) rfl ?_
    refine xV_iload_n e_X3_readCellOf_29 rfl ?_
    refine xV_if_ne e_X3_readCellOf_30 (fun h30 => ?_) (fun h30 => ?_)
    · refine xV_sipush (v := (nI 3072)) e_X3_readCellOf_39 (by decide) ?_
      refine xV_istore_n e_X3_readCellOf_42 (Nat.le_of_ble_eq_true rfl) rfl ?_
      refine xV_iload_n e_X3_readCellOf_43 rfl ?_
      refine xV_i2l e_X3_readCellOf_44 ?_
      refine xV_lconst (v := 0) e_X3_readCellOf_45 (by decide) ?_
      refine xV_lconst (v := 1) e_X3_readCellOf_46 (by decide) ?_
      refine xV_cS3i e_X3_readCellOf_47 c_X3_54 (C_X3_in) (Nat.le_of_ble_eq_true rfl) ⟨(Nat.le_of_ble_eq_true rfl), (Nat.le_of_ble_eq_true rfl)⟩ (xle_r _) (xle_r _) ?_
      rw [bL_N (a := 0) (b := 1) (by decide) (by decide)]
      refine xV_if_eqB e_X3_readCellOf_50 (fun h50 => ?_) (fun h50 => ?_)
      · refine xV_bipush (v := (-9)) e_X3_readCellOf_60 (by decide) ?_
        exact xV_ireturn e_X3_readCellOf_62 rfl rfl (by have okn : okT (I (m + 1)) len but p = false := (by unfold okT; rw [decide_eq_false (by omega), Bool.false_and]); rw [if_neg (bl_f okn), if_neg (bl_f okn)]; exact ⟨rfl, rfl, rfl, rfl⟩)
      · exact absurd h50 (by decide)
    · exact absurd h30 (by decide)
  · refine xV_aload_n e_X3_readCellOf_11 rfl ?_
    refine xV_getR e_X3_readCellOf_12 f_X3_7 (by assumption) (by assumption) ?_
    refine xV_aload_n e_X3_readCellOf_15 rfl ?_
    refine xV_getQ e_X3_readCellOf_16 f_X3_65 m0 ?_
    rw [hpl]
    refine xV_ialdN e_X3_readCellOf_19 (by exact xRow.q1 (by assumption)) (by omega) (by omega) ?_
    refine xV_bipush (v := (nI 48)) e_X3_readCellOf_20 (by decide) ?_
    refine xV_isub e_X3_readCellOf_22 ?_
    refine xV_goto e_X3_readCellOf_23 ?_
    refine xV_istore_n e_X3_readCellOf_28 (Nat.le_of_ble_eq_true rfl) rfl ?_
    refine xV_iload_n e_X3_readCellOf_29 rfl ?_
    refine xV_if_ne e_X3_readCellOf_30 (fun h30 => ?_) (fun h30 => ?_)
    · refine xV_sipush (v := (nI 3072)) e_X3_readCellOf_39 (by decide) ?_
      refine xV_istore_n e_X3_readCellOf_42 (Nat.le_of_ble_eq_true rfl) rfl ?_
      refine xV_iload_n e_X3_readCellOf_43 rfl ?_
      refine xV_i2l e_X3_readCellOf_44 ?_
      refine xV_lconst (v := 0) e_X3_readCellOf_45 (by decide) ?_
      refine xV_lconst (v := 1) e_X3_readCellOf_46 (by decide) ?_
      refine xV_cS3i e_X3_readCellOf_47 c_X3_54 (C_X3_in) (Nat.le_of_ble_eq_true rfl) ⟨(Nat.le_of_ble_eq_true rfl), (Nat.le_of_ble_eq_true rfl)⟩ (xle_r _) (xle_r _) ?_
      rw [bL_N (a := 0) (b := 1) (by decide) (by decide)]
      refine xV_if_eqB e_X3_readCellOf_50 (fun h50 => ?_) (fun h50 => ?_)
      · refine xV_bipush (v := (-9)) e_X3_readCellOf_60 (by decide) ?_
        exact xV_ireturn e_X3_readCellOf_62 rfl rfl (by have okn : okT (I (m + 1)) len but p = false := (by unfold okT; rw [decide_eq_true h8, show (decide (nI 0 ≤ ((I (m + 1)) p - nI 48)) && decide (((I (m + 1)) p - nI 48) ≤ nI 1)) = false from h50]; rfl); rw [if_neg (bl_f okn), if_neg (bl_f okn)]; exact ⟨rfl, rfl, rfl, rfl⟩)
      · refine xV_iload_n e_X3_readCellOf_53 rfl ?_
        refine xV_iload_n e_X3_readCellOf_54 rfl ?_
        refine xV_iand e_X3_readCellOf_55 ?_
        refine xV_iload_n e_X3_readCellOf_56 rfl ?_
        refine xV_icmp_ne e_X3_readCellOf_57 (fun h57 => ?_) (fun h57 => ?_)
        · have oky : okT (I (m + 1)) len but p = true := by unfold okT tnM; rw [decide_eq_true h8, show (decide (nI 0 ≤ ((I (m + 1)) p - nI 48)) && decide (((I (m + 1)) p - nI 48) ≤ nI 1)) = true from h50, if_neg h30, decide_eq_false h57]; rfl
          refine xV_aload_n e_X3_readCellOf_63 rfl ?_
          refine xV_dup e_X3_readCellOf_64 rfl ?_
          refine xV_getQ e_X3_readCellOf_65 f_X3_65 m0 ?_
          rw [hpl]
          refine xV_iconst (v := (nI 1)) e_X3_readCellOf_68 (by decide) ?_
          refine xV_iaddN e_X3_readCellOf_69 ?_
          refine xV_putQ e_X3_readCellOf_70 p_X3_65 m0 ?_
          refine xV_aload_n e_X3_readCellOf_73 rfl ?_
          refine xV_getQ e_X3_readCellOf_74 f_X3_65 m0 ?_
          rw [upd_s]
          refine xV_aload_n e_X3_readCellOf_77 rfl ?_
          refine xV_getQ e_X3_readCellOf_78 f_X3_62 m0 ?_
          rw [upd_n (by omega), hlen]
          refine xV_icmp_geN e_X3_readCellOf_81 (by omega) (by omega) (fun h81 => ?_) (fun h81 => ?_)
          · refine xV_bipush (v := (-9)) e_X3_readCellOf_99 (by decide) ?_
            refine xV_istore e_X3_readCellOf_101 (Nat.le_of_ble_eq_true rfl) rfl ?_
            refine xV_iload e_X3_readCellOf_103 rfl ?_
            refine xV_i2l e_X3_readCellOf_105 ?_
            refine xV_lconst (v := 0) e_X3_readCellOf_106 (by decide) ?_
            refine xV_iload_n e_X3_readCellOf_107 rfl ?_
            refine xV_if_ne e_X3_readCellOf_108 (fun h108 => ?_) (fun h108 => ?_)
            · refine xV_lconst (v := 1) e_X3_readCellOf_117 (by decide) ?_
              refine xV_cS3i e_X3_readCellOf_118 c_X3_54 (C_X3_in) (Nat.le_of_ble_eq_true rfl) ⟨(Nat.le_of_ble_eq_true rfl), (Nat.le_of_ble_eq_true rfl)⟩ (xle_r _) (xle_r _) ?_
              rw [bL_N (a := 0) (b := 1) (by decide) (by decide)]
              refine xV_if_eqB e_X3_readCellOf_121 (fun h121 => ?_) (fun h121 => ?_)
              · refine xV_bipush (v := (-9)) e_X3_readCellOf_138 (by decide) ?_
                exact xV_ireturn e_X3_readCellOf_140 rfl rfl (by have okn : okO (I (m + 1)) len but ((I (m + 1)) p - nI 48) (p + 1) = false := (by unfold okO; rw [decide_eq_false (by omega), Bool.false_and]); rw [if_pos oky, if_neg (bl_f okn), if_pos oky, if_neg (bl_f okn)]; exact ⟨rfl, rfl, rfl, rfl⟩)
              · exact absurd h121 (by decide)
            · exact absurd h108 h30
          · refine xV_aload_n e_X3_readCellOf_84 rfl ?_
            refine xV_getR e_X3_readCellOf_85 f_X3_7 (by assumption) (by assumption) ?_
            refine xV_aload_n e_X3_readCellOf_88 rfl ?_
            refine xV_getQ e_X3_readCellOf_89 f_X3_65 m0 ?_
            rw [upd_s]
            refine xV_ialdN e_X3_readCellOf_92 (by exact xRow.q1 (by assumption)) (by omega) (by omega) ?_
            refine xV_bipush (v := (nI 48)) e_X3_readCellOf_93 (by decide) ?_
            refine xV_isub e_X3_readCellOf_95 ?_
            refine xV_goto e_X3_readCellOf_96 ?_
            refine xV_istore e_X3_readCellOf_101 (Nat.le_of_ble_eq_true rfl) rfl ?_
            refine xV_iload e_X3_readCellOf_103 rfl ?_
            refine xV_i2l e_X3_readCellOf_105 ?_
            refine xV_lconst (v := 0) e_X3_readCellOf_106 (by decide) ?_
            refine xV_iload_n e_X3_readCellOf_107 rfl ?_
            refine xV_if_ne e_X3_readCellOf_108 (fun h108 => ?_) (fun h108 => ?_)
            · refine xV_lconst (v := 1) e_X3_readCellOf_117 (by decide) ?_
              refine xV_cS3i e_X3_readCellOf_118 c_X3_54 (C_X3_in) (Nat.le_of_ble_eq_true rfl) ⟨(Nat.le_of_ble_eq_true rfl), (Nat.le_of_ble_eq_true rfl)⟩ (xle_r _) (xle_r _) ?_
              rw [bL_N (a := 0) (b := 1) (by decide) (by decide)]
              refine xV_if_eqB e_X3_readCellOf_121 (fun h121 => ?_) (fun h121 => ?_)
              · refine xV_bipush (v := (-9)) e_X3_readCellOf_138 (by decide) ?_
                exact xV_ireturn e_X3_readCellOf_140 rfl rfl (by have okn : okO (I (m + 1)) len but ((I (m + 1)) p - nI 48) (p + 1) = false := (by unfold okO; rw [if_neg h30, show (decide (nI 0 ≤ ((I (m + 1)) (p + 1) - nI 48)) && decide (((I (m + 1)) (p + 1) - nI 48) ≤ nI 1)) = false from h121, Bool.false_and, Bool.and_false]); rw [if_pos oky, if_neg (bl_f okn), if_pos oky, if_neg (bl_f okn)]; exact ⟨rfl, rfl, rfl, rfl⟩)
              · refine xV_iload_n e_X3_readCellOf_124 rfl ?_
                refine xV_bipush (v := (nI 10)) e_X3_readCellOf_125 (by decide) ?_
                refine xV_iload_n e_X3_readCellOf_127 rfl ?_
                refine xV_imul e_X3_readCellOf_128 ?_
                refine xV_iload e_X3_readCellOf_129 rfl ?_
                refine xV_iadd e_X3_readCellOf_131 ?_
                refine xV_cS2i e_X3_readCellOf_132 c_X3_70 (C_X3_hasH) (Nat.le_of_ble_eq_true rfl) ⟨(Nat.le_of_ble_eq_true rfl), (Nat.le_of_ble_eq_true rfl)⟩ (xle_r _) (xle_r _) ?_
                refine xV_if_eqB e_X3_readCellOf_135 (fun h135 => ?_) (fun h135 => ?_)
                · refine xV_aload_n e_X3_readCellOf_141 rfl ?_
                  refine xV_dup e_X3_readCellOf_142 rfl ?_
                  refine xV_getQ e_X3_readCellOf_143 f_X3_65 m0 ?_
                  rw [upd_s]
                  refine xV_iconst (v := (nI 1)) e_X3_readCellOf_146 (by decide) ?_
                  refine xV_iaddN e_X3_readCellOf_147 ?_
                  refine xV_putQ e_X3_readCellOf_148 p_X3_65 m0 ?_
                  rw [upd_twice]
                  refine xV_bipush (v := (nI 10)) e_X3_readCellOf_151 (by decide) ?_
                  refine xV_iload_n e_X3_readCellOf_153 rfl ?_
                  refine xV_imul e_X3_readCellOf_154 ?_
                  refine xV_iload e_X3_readCellOf_155 rfl ?_
                  refine xV_iadd e_X3_readCellOf_157 ?_
                  exact xV_ireturn e_X3_readCellOf_158 rfl rfl (by have oko : okO (I (m + 1)) len but ((I (m + 1)) p - nI 48) (p + 1) = true := (by unfold okO; rw [decide_eq_true h81, if_neg h30, show (decide (nI 0 ≤ ((I (m + 1)) (p + 1) - nI 48)) && decide (((I (m + 1)) (p + 1) - nI 48) ≤ nI 1)) = true from h121, h135]; rfl); rw [if_pos oky, if_pos oko, if_pos oky, if_pos oko]; exact ⟨rfl, rfl, rfl, rfl⟩)
                · refine xV_bipush (v := (-9)) e_X3_readCellOf_138 (by decide) ?_
                  exact xV_ireturn e_X3_readCellOf_140 rfl rfl (by have okn : okO (I (m + 1)) len but ((I (m + 1)) p - nI 48) (p + 1) = false := (by unfold okO; rw [h135, Bool.not_true, Bool.and_false, Bool.and_false]); rw [if_pos oky, if_neg (bl_f okn), if_pos oky, if_neg (bl_f okn)]; exact ⟨rfl, rfl, rfl, rfl⟩)
            · exact absurd h108 h30
        · refine xV_bipush (v := (-9)) e_X3_readCellOf_60 (by decide) ?_
          exact xV_ireturn e_X3_readCellOf_62 rfl rfl (by have okn : okT (I (m + 1)) len but p = false := (by unfold okT tnM; rw [if_neg h30, decide_eq_true h57, Bool.not_true, Bool.and_false, Bool.and_false]); rw [if_neg (bl_f okn), if_neg (bl_f okn)]; exact ⟨rfl, rfl, rfl, rfl⟩)
    · refine xV_sipush (v := (nI 1023)) e_X3_readCellOf_33 (by decide) ?_
      refine xV_goto e_X3_readCellOf_36 ?_
      refine xV_istore_n e_X3_readCellOf_42 (Nat.le_of_ble_eq_true rfl) rfl ?_
      refine xV_iload_n e_X3_readCellOf_43 rfl ?_
      refine xV_i2l e_X3_readCellOf_44 ?_
      refine xV_lconst (v := 0) e_X3_readCellOf_45 (by decide) ?_
      refine xV_lconst (v := 1) e_X3_readCellOf_46 (by decide) ?_
      refine xV_cS3i e_X3_readCellOf_47 c_X3_54 (C_X3_in) (Nat.le_of_ble_eq_true rfl) ⟨(Nat.le_of_ble_eq_true rfl), (Nat.le_of_ble_eq_true rfl)⟩ (xle_r _) (xle_r _) ?_
      rw [bL_N (a := 0) (b := 1) (by decide) (by decide)]
      refine xV_if_eqB e_X3_readCellOf_50 (fun h50 => ?_) (fun h50 => ?_)
      · refine xV_bipush (v := (-9)) e_X3_readCellOf_60 (by decide) ?_
        exact xV_ireturn e_X3_readCellOf_62 rfl rfl (by have okn : okT (I (m + 1)) len but p = false := (by unfold okT; rw [decide_eq_true h8, show (decide (nI 0 ≤ ((I (m + 1)) p - nI 48)) && decide (((I (m + 1)) p - nI 48) ≤ nI 1)) = false from h50]; rfl); rw [if_neg (bl_f okn), if_neg (bl_f okn)]; exact ⟨rfl, rfl, rfl, rfl⟩)
      · refine xV_iload_n e_X3_readCellOf_53 rfl ?_
        refine xV_iload_n e_X3_readCellOf_54 rfl ?_
        refine xV_iand e_X3_readCellOf_55 ?_
        refine xV_iload_n e_X3_readCellOf_56 rfl ?_
        refine xV_icmp_ne e_X3_readCellOf_57 (fun h57 => ?_) (fun h57 => ?_)
        · have oky : okT (I (m + 1)) len but p = true := by unfold okT tnM; rw [decide_eq_true h8, show (decide (nI 0 ≤ ((I (m + 1)) p - nI 48)) && decide (((I (m + 1)) p - nI 48) ≤ nI 1)) = true from h50, if_pos h30, decide_eq_false h57]; rfl
          refine xV_aload_n e_X3_readCellOf_63 rfl ?_
          refine xV_dup e_X3_readCellOf_64 rfl ?_
          refine xV_getQ e_X3_readCellOf_65 f_X3_65 m0 ?_
          rw [hpl]
          refine xV_iconst (v := (nI 1)) e_X3_readCellOf_68 (by decide) ?_
          refine xV_iaddN e_X3_readCellOf_69 ?_
          refine xV_putQ e_X3_readCellOf_70 p_X3_65 m0 ?_
          refine xV_aload_n e_X3_readCellOf_73 rfl ?_
          refine xV_getQ e_X3_readCellOf_74 f_X3_65 m0 ?_
          rw [upd_s]
          refine xV_aload_n e_X3_readCellOf_77 rfl ?_
          refine xV_getQ e_X3_readCellOf_78 f_X3_62 m0 ?_
          rw [upd_n (by omega), hlen]
          refine xV_icmp_geN e_X3_readCellOf_81 (by omega) (by omega) (fun h81 => ?_) (fun h81 => ?_)
          · refine xV_bipush (v := (-9)) e_X3_readCellOf_99 (by decide) ?_
            refine xV_istore e_X3_readCellOf_101 (Nat.le_of_ble_eq_true rfl) rfl ?_
            refine xV_iload e_X3_readCellOf_103 rfl ?_
            refine xV_i2l e_X3_readCellOf_105 ?_
            refine xV_lconst (v := 0) e_X3_readCellOf_106 (by decide) ?_
            refine xV_iload_n e_X3_readCellOf_107 rfl ?_
            refine xV_if_ne e_X3_readCellOf_108 (fun h108 => ?_) (fun h108 => ?_)
            · exact absurd h30 h108
            · refine xV_ldc2 e_X3_readCellOf_111 k_X3_68 ?_
              refine xV_goto e_X3_readCellOf_114 ?_
              refine xV_cS3i e_X3_readCellOf_118 c_X3_54 (C_X3_in) (Nat.le_of_ble_eq_true rfl) ⟨(Nat.le_of_ble_eq_true rfl), (Nat.le_of_ble_eq_true rfl)⟩ (xle_r _) (xle_r _) ?_
              rw [bL_N (a := 0) (b := 9) (by decide) (by decide)]
              refine xV_if_eqB e_X3_readCellOf_121 (fun h121 => ?_) (fun h121 => ?_)
              · refine xV_bipush (v := (-9)) e_X3_readCellOf_138 (by decide) ?_
                exact xV_ireturn e_X3_readCellOf_140 rfl rfl (by have okn : okO (I (m + 1)) len but ((I (m + 1)) p - nI 48) (p + 1) = false := (by unfold okO; rw [decide_eq_false (by omega), Bool.false_and]); rw [if_pos oky, if_neg (bl_f okn), if_pos oky, if_neg (bl_f okn)]; exact ⟨rfl, rfl, rfl, rfl⟩)
              · exact absurd h121 (by decide)
          · refine xV_aload_n e_X3_readCellOf_84 rfl ?_
            refine xV_getR e_X3_readCellOf_85 f_X3_7 (by assumption) (by assumption) ?_
            refine xV_aload_n e_X3_readCellOf_88 rfl ?_
            refine xV_getQ e_X3_readCellOf_89 f_X3_65 m0 ?_
            rw [upd_s]
            refine xV_ialdN e_X3_readCellOf_92 (by exact xRow.q1 (by assumption)) (by omega) (by omega) ?_
            refine xV_bipush (v := (nI 48)) e_X3_readCellOf_93 (by decide) ?_
            refine xV_isub e_X3_readCellOf_95 ?_
            refine xV_goto e_X3_readCellOf_96 ?_
            refine xV_istore e_X3_readCellOf_101 (Nat.le_of_ble_eq_true rfl) rfl ?_
            refine xV_iload e_X3_readCellOf_103 rfl ?_
            refine xV_i2l e_X3_readCellOf_105 ?_
            refine xV_lconst (v := 0) e_X3_readCellOf_106 (by decide) ?_
            refine xV_iload_n e_X3_readCellOf_107 rfl ?_
            refine xV_if_ne e_X3_readCellOf_108 (fun h108 => ?_) (fun h108 => ?_)
            · exact absurd h30 h108
            · refine xV_ldc2 e_X3_readCellOf_111 k_X3_68 ?_
              refine xV_goto e_X3_readCellOf_114 ?_
              refine xV_cS3i e_X3_readCellOf_118 c_X3_54 (C_X3_in) (Nat.le_of_ble_eq_true rfl) ⟨(Nat.le_of_ble_eq_true rfl), (Nat.le_of_ble_eq_true rfl)⟩ (xle_r _) (xle_r _) ?_
              rw [bL_N (a := 0) (b := 9) (by decide) (by decide)]
              refine xV_if_eqB e_X3_readCellOf_121 (fun h121 => ?_) (fun h121 => ?_)
              · refine xV_bipush (v := (-9)) e_X3_readCellOf_138 (by decide) ?_
                exact xV_ireturn e_X3_readCellOf_140 rfl rfl (by have okn : okO (I (m + 1)) len but ((I (m + 1)) p - nI 48) (p + 1) = false := (by unfold okO; rw [if_pos h30, show (decide (nI 0 ≤ ((I (m + 1)) (p + 1) - nI 48)) && decide (((I (m + 1)) (p + 1) - nI 48) ≤ nI 9)) = false from h121, Bool.false_and, Bool.and_false]); rw [if_pos oky, if_neg (bl_f okn), if_pos oky, if_neg (bl_f okn)]; exact ⟨rfl, rfl, rfl, rfl⟩)
              · refine xV_iload_n e_X3_readCellOf_124 rfl ?_
                refine xV_bipush (v := (nI 10)) e_X3_readCellOf_125 (by decide) ?_
                refine xV_iload_n e_X3_readCellOf_127 rfl ?_
                refine xV_imul e_X3_readCellOf_128 ?_
                refine xV_iload e_X3_readCellOf_129 rfl ?_
                refine xV_iadd e_X3_readCellOf_131 ?_
                refine xV_cS2i e_X3_readCellOf_132 c_X3_70 (C_X3_hasH) (Nat.le_of_ble_eq_true rfl) ⟨(Nat.le_of_ble_eq_true rfl), (Nat.le_of_ble_eq_true rfl)⟩ (xle_r _) (xle_r _) ?_
                refine xV_if_eqB e_X3_readCellOf_135 (fun h135 => ?_) (fun h135 => ?_)
                · refine xV_aload_n e_X3_readCellOf_141 rfl ?_
                  refine xV_dup e_X3_readCellOf_142 rfl ?_
                  refine xV_getQ e_X3_readCellOf_143 f_X3_65 m0 ?_
                  rw [upd_s]
                  refine xV_iconst (v := (nI 1)) e_X3_readCellOf_146 (by decide) ?_
                  refine xV_iaddN e_X3_readCellOf_147 ?_
                  refine xV_putQ e_X3_readCellOf_148 p_X3_65 m0 ?_
                  rw [upd_twice]
                  refine xV_bipush (v := (nI 10)) e_X3_readCellOf_151 (by decide) ?_
                  refine xV_iload_n e_X3_readCellOf_153 rfl ?_
                  refine xV_imul e_X3_readCellOf_154 ?_
                  refine xV_iload e_X3_readCellOf_155 rfl ?_
                  refine xV_iadd e_X3_readCellOf_157 ?_
                  exact xV_ireturn e_X3_readCellOf_158 rfl rfl (by have oko : okO (I (m + 1)) len but ((I (m + 1)) p - nI 48) (p + 1) = true := (by unfold okO; rw [decide_eq_true h81, if_pos h30, show (decide (nI 0 ≤ ((I (m + 1)) (p + 1) - nI 48)) && decide (((I (m + 1)) (p + 1) - nI 48) ≤ nI 9)) = true from h121, h135]; rfl); rw [if_pos oky, if_pos oko, if_pos oky, if_pos oko]; exact ⟨rfl, rfl, rfl, rfl⟩)
                · refine xV_bipush (v := (-9)) e_X3_readCellOf_138 (by decide) ?_
                  exact xV_ireturn e_X3_readCellOf_140 rfl rfl (by have okn : okO (I (m + 1)) len but ((I (m + 1)) p - nI 48) (p + 1) = false := (by unfold okO; rw [h135, Bool.not_true, Bool.and_false, Bool.and_false]); rw [if_pos oky, if_neg (bl_f okn), if_pos oky, if_neg (bl_f okn)]; exact ⟨rfl, rfl, rfl, rfl⟩)
        · refine xV_bipush (v := (-9)) e_X3_readCellOf_60 (by decide) ?_
          exact xV_ireturn e_X3_readCellOf_62 rfl rfl (by have okn : okT (I (m + 1)) len but p = false := (by unfold okT tnM; rw [if_pos h30, decide_eq_true h57, Bool.not_true, Bool.and_false, Bool.and_false]); rw [if_neg (bl_f okn), if_neg (bl_f okn)]; exact ⟨rfl, rfl, rfl, rfl⟩)
end XMN
