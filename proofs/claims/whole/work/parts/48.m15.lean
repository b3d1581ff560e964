/-! THE MODEL: cells and monks read -/
section XMO
variable {G : xG} {T : xT} {R : xR} {L : xL} {I : xI}
theorem PR.upw1 {mo c : Nat} {S : xS} {P : Nat → Int32} {v : Int32} (hm : mo ≤ 4) (hc : c < 12) (h : PR mo S P) : PR mo (S.1, upd S.2.1 c v, S.2.2) (upd P c v) := by
  obtain ⟨p1, p2, p3, p4, p5, p6, p7, p8, p9⟩ := h
  refine ⟨fun d hd => ?_, fun d hd => by rw [upd_n (by omega)]; exact p2 d hd, fun d hd => by rw [upd_n (by omega)]; exact p3 d hd, fun d hd => by rw [upd_n (by omega)]; exact p4 d hd, fun j hj => by rw [upd_n (by omega)]; exact p5 j hj,
    by rw [upd_n (by omega)]; exact p6, by rw [upd_n (by omega)]; exact p7, by rw [upd_n (by omega)]; exact p8, by rw [upd_n (by omega)]; exact p9⟩
  by_cases e : d = c
  · subst e; rw [upd_s]; exact upd_s.symm
  · rw [upd_n (by omega), p1 d hd]; exact (upd_n e).symm
def fg9 (w : Nat → Int32) : Prop := ∀ c, c < 12 → ∃ d, d ≤ 9 ∧ w c = nI d
theorem fg9.up {w : Nat → Int32} {v : Int32} {c : Nat} (h : fg9 w) (hv : ∃ d, d ≤ 9 ∧ v = nI d) : fg9 (upd w c v) := fun q hq => by
  by_cases e : q = c
  · subst e; rw [upd_s]; exact hv
  · rw [upd_n e]; exact h q hq
def GD (S : xS) : Prop := S.1 9 = nI 0 ∧ S.1 8 = nI 0 ∧ S.1 10 = nI 0 ∧ S.1 11 = nI 0 ∧ fg9 S.2.1 ∧ fg9 S.2.2.1 ∧ fg9 S.2.2.2.1 ∧ ∀ c, c < 12 → S.2.2.2.2.1 c = nI 0
theorem oS_le {w : Nat → Int32} (h : fg9 w) : ∀ n, n ≤ 12 → oS w n ≤ 9 * n := by
  intro n
  induction n with
  | zero => intro _; exact Nat.le_refl _
  | succ n ih =>
    intro hn
    obtain ⟨d, hd, e⟩ := h n (by omega)
    have q := ih (by omega)
    rw [oS, e, nI_clamp (by omega)]
    omega
theorem GD.gv {S : xS} (h : GD S) (mo : Nat) : GV mo 0 S := by
  obtain ⟨g1, g2, g3, g4, g5, g6, g7, g8⟩ := h
  refine ⟨fun k _ hk => by rw [g1]; exact hs_z hk, fun k _ hk => by rw [g2]; exact hs_z hk, g7, fun c hc => ?_, fun c hc => ⟨0, Nat.le_refl _, g8 c hc⟩, fun c hc hf => ?_, g5, 0, g3, ?_⟩
  · obtain ⟨d, hd, e⟩ := g6 c hc
    exact ⟨d, by omega, e⟩
  · rw [g1, hs_z (by omega)] at hf; cases hf
  · have := oS_le g5 12 (Nat.le_refl _)
    omega
/-- the reader's state on both sides, between two parts -/
def RR (mo : Nat) (S : xS) (F W V : Nat → Int32) : Prop := (∀ k, 12 ≤ k → k < 32 → hs (F 11) (nI k) = false) ∧ F 10 = nI (cnt (F 11)) ∧ F 9 = nI mo ∧ F 8 = S.1 5 ∧ PR mo S W ∧ GB mo V S ∧ GD S ∧ ∀ k, mo ≤ k → k < 32 → hs (S.1 7) (nI k) = false
theorem RR.f3 {mo : Nat} {S : xS} {F W V : Nat → Int32} {v : Int32} (h : RR mo S F W V) : RR mo S (upd F 3 v) W V := by
  unfold RR at h ⊢
  rw [upd_n (by omega), upd_n (by omega), upd_n (by omega), upd_n (by omega)]
  exact h
def KF (F F' : Nat → Int32) : Prop := F' 0 = F 0 ∧ F' 2 = F 2 ∧ F' 4 = F 4 ∧ F' 5 = F 5 ∧ F' 16 = F 16 ∧ F' 19 = F 19
theorem KF.rf {F : Nat → Int32} : KF F F := ⟨rfl, rfl, rfl, rfl, rfl, rfl⟩
theorem KF.tr {F F' F2 : Nat → Int32} (h : KF F F') (k : KF F' F2) : KF F F2 := ⟨k.1.trans h.1, k.2.1.trans h.2.1, k.2.2.1.trans h.2.2.1, k.2.2.2.1.trans h.2.2.2.1, k.2.2.2.2.1.trans h.2.2.2.2.1, k.2.2.2.2.2.trans h.2.2.2.2.2⟩
theorem KF.up {F F' : Nat → Int32} {k : Nat} {v : Int32} (h : KF F F') (hk : k = 3 ∨ k = 8 ∨ k = 9 ∨ k = 10 ∨ k = 11) : KF F (upd F' k v) := by
  unfold KF at h ⊢
  rw [upd_n (by omega), upd_n (by omega), upd_n (by omega), upd_n (by omega), upd_n (by omega), upd_n (by omega)]
  exact h
/-- what a piece of the reading comes to -/
def RO (txt : Nat → Int32) (len m p : Nat) (I : xI) (F : Nat → Int32) (res : Int32 × xRd) (rb : Bool) (I2 : xI) : Prop := ∃ F' W' V' q, I2 = rM I m F' W' V' ∧ KF F F' ∧ F' 3 = nI q ∧ q ≤ len ∧
  ((rb = false ∧ res.1 = nI q) ∨ (rb = true ∧ p < q ∧ ∃ mo' X' S' pl', Sq X' (nI 2) (F' 11) pl' S' ∧ RR mo' S' F' W' V' ∧ res = rLoop txt (len - q) q X'))
theorem okF_v {txt : Nat → Int32} {len p : Nat} (h : okF txt len (nI 0) (nI 9) p = true) : ∃ d, d ≤ 9 ∧ txt p - nI 48 = nI d := by
  obtain ⟨j, j1, j2, e⟩ := bL_j (by decide) (by decide) (okF_d h).2
  exact ⟨j, j2, e⟩
theorem okF_ne {txt : Nat → Int32} {len p : Nat} {hi : Int32} (h : okF txt len (nI 0) hi p = true) : ¬ txt p - nI 48 = -9 := fun z => by
  have q := (okF_d h).2
  rw [z, Bool.and_eq_true] at q
  exact absurd (of_decide_eq_true q.1) (by decide)
theorem okT_d {txt : Nat → Int32} {len p : Nat} {but : Int32} (h : okT txt len but p = true) : p < len ∧ ∃ q, q < 2 ∧ txt p - nI 48 = nI q := by
  unfold okT at h
  rw [Bool.and_eq_true, Bool.and_eq_true] at h
  obtain ⟨j, j1, j2, e⟩ := bL_j (by decide) (by decide) h.2.1
  exact ⟨of_decide_eq_true h.1, j, by omega, e⟩
theorem okO_d {txt : Nat → Int32} {len p q : Nat} {but t : Int32} (hq : q < 2) (ht : t = nI q) (h : okO txt len but t p = true) : p < len ∧ ∃ c, c < 12 ∧ nI 10 * t + (txt p - nI 48) = nI c ∧ hs but (nI c) = false := by
  unfold okO at h
  rw [Bool.and_eq_true, Bool.and_eq_true, Bool.and_eq_true] at h
  obtain ⟨h1, ⟨h2, h3⟩, h4⟩ := h
  have h3 := of_decide_eq_true h3
  have h2 := of_decide_eq_true h2
  have h9 : txt p - nI 48 ≤ nI 9 := Int32.le_trans h3 (by split <;> decide)
  obtain ⟨j, j2, e⟩ := nI_of2 (n := 9) (nI_toInt (by decide)) (Int32.not_lt.mpr (by rw [← nI_0]; exact h2)) h9
  refine ⟨of_decide_eq_true h1, 10 * q + j, ?_, by rw [ht, e, pk_mul, nI_add], ?_⟩
  · rw [e, ht] at h3
    have : q = 0 ∨ q = 1 := by omega
    rcases this with rfl | rfl
    · omega
    · rw [if_neg (by decide)] at h3
      have := (nI_leI (by omega) (by decide)).mp h3
      omega
  · rw [ht, e, pk_mul, nI_add] at h4
    simpa using h4
theorem RR.cell {mo c : Nat} {S : xS} {F F' W V : Nat → Int32} {a1 a2 a3 : Int32} (h : RR mo S F W V) (hc : c < 12) (hn : hs (F 11) (nI c) = false) (h1 : ∃ d, d ≤ 9 ∧ a1 = nI d) (h2 : ∃ d, d ≤ 9 ∧ a2 = nI d) (h3 : ∃ d, d ≤ 9 ∧ a3 = nI d)
    (f11 : F' 11 = F 11 ||| (nI 1 <<< (nI c &&& 31))) (f10 : F' 10 = nI (cnt (F 11) + 1)) (f9 : F' 9 = F 9) (f8 : F' 8 = F 8) :
    RR mo (S.1, upd S.2.1 c a1, upd S.2.2.1 c a2, upd S.2.2.2.1 c a3, S.2.2.2.2) F' (upd (upd (upd W c a1) (12 + c) a2) (24 + c) a3) V := by
  obtain ⟨r1, r2, r3, r4, r5, r6, r7, r8⟩ := h
  have hm4 := r6.1.2.1
  obtain ⟨g1, g2, g3, g4, g5, g6, g7, g8⟩ := r7
  refine ⟨fun k k1 k2 => ?_, ?_, f9.trans r3, f8.trans r4, PR.upw3 hm4 hc (PR.upw2 hm4 hc (PR.upw1 hm4 hc r5)), r6.keep ⟨rfl, rfl, rfl, rfl⟩, ⟨g1, g2, g3, g4, g5.up h1, g6.up h2, g7.up h3, g8⟩, r8⟩
  · rw [f11, hs_or k2, r1 k k1 k2, hs_one (by omega) k2, decide_eq_false (by omega)]; rfl
  · rw [f10, f11, cnt_or hc hn]
theorem RR.monk {mo c : Nat} {S : xS} {F F' W V : Nat → Int32} {s : Int32} (h : RR mo S F W V) (hmo : mo < 4) (hc : c < 12) (hsx : s = nI 0 ∨ s = nI 1) (f11 : F' 11 = F 11) (f10 : F' 10 = F 10) (f9 : F' 9 = nI (mo + 1)) (f8 : F' 8 = F 8) :
    RR (mo + 1) (mkS S s (nI c)) F' (upd W (49 + mo) (nI c)) (upd V mo s) := by
  obtain ⟨r1, r2, r3, r4, r5, r6, r7, r8⟩ := h
  have e6 : S.1 6 = nI mo := r6.1.1
  have ew : (mkS S s (nI c)).2.2.2.2.2 = upd S.2.2.2.2.2 mo (nI c) := by
    show upB 4 S.2.2.2.2.2 (S.1 6) (nI c) = _
    rw [e6, upB_N hmo (by decide)]
  have f_ : ∀ k, k ≠ 6 → k ≠ 7 → (mkS S s (nI c)).1 k = S.1 k := fun k k6 k7 => by
    show upd (upd S.1 7 (S.1 7 ||| (s <<< (S.1 6 &&& 31)))) 6 (S.1 6 + nI 1) k = _
    rw [upd_n k6, upd_n k7]
  have f6 : (mkS S s (nI c)).1 6 = nI (mo + 1) := by
    show upd (upd S.1 7 (S.1 7 ||| (s <<< (S.1 6 &&& 31)))) 6 (S.1 6 + nI 1) 6 = _
    rw [upd_s, e6, nI_add]
  have f7 : (mkS S s (nI c)).1 7 = S.1 7 ||| (s <<< (nI mo &&& 31)) := by
    show upd (upd S.1 7 (S.1 7 ||| (s <<< (S.1 6 &&& 31)))) 6 (S.1 6 + nI 1) 7 = _
    rw [upd_n (by omega), upd_s, e6]
  have sh : ∀ k, k < 32 → hs (s <<< (nI mo &&& 31)) (nI k) = (decide (k = mo) && decide (s = nI 1)) := fun k hk => by
    rcases hsx with rfl | rfl
    · have z0 : nI 0 <<< (nI mo &&& 31) = nI 0 := by
        have : ∀ q, q < 4 → nI 0 <<< (nI q &&& 31) = nI 0 := by decide +kernel
        exact this mo hmo
      rw [z0, hs_z hk, decide_eq_false (by decide : ¬ nI 0 = nI 1), Bool.and_false]
    · rw [hs_one (by omega) hk, decide_eq_true rfl, Bool.and_true]
  refine ⟨by rw [f11]; exact r1, by rw [f10, f11]; exact r2, f9, by rw [f_ 5 (by omega) (by omega)]; exact f8.trans r4, ?_, ⟨⟨f6, by omega, ?_⟩, by rw [f_ 5 (by omega) (by omega)]; exact r6.2.1, fun j hj => ?_⟩, ?_, fun k k1 k2 => ?_⟩
  · obtain ⟨p1, p2, p3, p4, p5, p6, p7, p8, p9⟩ := r5
    refine ⟨fun d hd => by rw [upd_n (by omega)]; exact p1 d hd, fun d hd => by rw [upd_n (by omega)]; exact p2 d hd, fun d hd => by rw [upd_n (by omega)]; exact p3 d hd, fun d hd => by rw [upd_n (by omega)]; exact p4 d hd, fun j hj => ?_,
      by rw [upd_n (by omega), f_ 9 (by omega) (by omega)]; exact p6, by rw [upd_n (by omega), f_ 8 (by omega) (by omega)]; exact p7, by rw [upd_n (by omega), f_ 10 (by omega) (by omega)]; exact p8, by rw [upd_n (by omega), f_ 11 (by omega) (by omega)]; exact p9⟩
    rw [ew]
    by_cases e : j = mo
    · subst e; rw [upd_s, upd_s]
    · rw [upd_n (by omega), upd_n e]; exact p5 j (by omega)
  · rw [ew]
    intro q hq
    unfold plN
    by_cases e : q = mo
    · subst e; rw [upd_s, nI_clamp (by omega)]; exact ⟨rfl, hc⟩
    · rw [upd_n e]; exact r6.1.2.2 q (by omega)
  · rw [f7, hs_or (by omega), sh j (by omega)]
    by_cases e : j = mo
    · subst e
      rw [upd_s, r8 j (Nat.le_refl _) (by omega), decide_eq_true rfl, Bool.true_and, Bool.false_or]
      exact ⟨hsx, rfl⟩
    · rw [upd_n e, decide_eq_false e, Bool.false_and, Bool.or_false]
      exact r6.2.2 j (by omega)
  · obtain ⟨g1, g2, g3, g4, g5, g6, g7, g8⟩ := r7
    exact ⟨(f_ 9 (by omega) (by omega)).trans g1, (f_ 8 (by omega) (by omega)).trans g2, (f_ 10 (by omega) (by omega)).trans g3, (f_ 11 (by omega) (by omega)).trans g4, g5, g6, g7, g8⟩
  · rw [f7, hs_or k2, r8 k (by omega) k2, sh k k2, decide_eq_false (by omega)]; rfl
set_option maxHeartbeats 4000000 in
set_option maxRecDepth 100000 in
theorem K_readCell {m len p mo : Nat} (hX : XM G T R m) {F W V : Nat → Int32} (hlen : F 2 = nI len) (h72 : len ≤ 72) (hpl : F 3 = nI p) (hp : p ≤ len) {S : xS} {X : xRd} {pl : Int32} (hR : RR mo S F W V) (hS : Sq X (nI 3) (F 11) pl S) : xCon G Y_X3_readCell [.ref m] T R L (rM I m F W V) (T, fun o2 R2 L2 I2 => ∃ r, o2 = some (.int r) ∧ (∃ rb, r = xb rb ∧ R2 = R ∧ L2 = L ∧ RO (I (m + 1)) len m (p) I (F) (rLoop (I (m + 1)) (len - (p)) (p) X) rb I2)) := by
  obtain ⟨m0, rt, st, rs, ss, rp, sp, rrp, srp, rrs, srs, rb, sb, rk, sk, ri, si, rc, sc, rv, sv, rr, sr⟩ := id hX
  refine xCon.mk (xl := [some (.ref m), none, none, none, none]) (by decide +kernel) (xle_r _) rfl (Nat.le_of_ble_eq_true rfl) rfl ?_
  have T1 := rd_ten3 (txt := (I (m + 1))) (len := len) hp hS
  cases hT : okT (I (m + 1)) len (F 11) p
  · have k0 : True := trivial
    refine xV_aload_n e_X3_readCell_0 rfl ?_
    refine xV_aload_n e_X3_readCell_1 rfl ?_
    refine xV_getQ e_X3_readCell_2 f_X3_74 m0 ?_
    refine xV_cV1i e_X3_readCell_5 c_X3_77 (by assumption) (C_X3_readCellOf hX hlen h72 hpl hp) (Nat.le_of_ble_eq_true rfl) ⟨(Nat.le_of_ble_eq_true rfl), (Nat.le_of_ble_eq_true rfl)⟩ (xle_r _) (xle_r _) ?_
    rw [if_neg (bl_f hT), if_neg (bl_f hT)]
    refine xV_istore_n e_X3_readCell_8 (Nat.le_of_ble_eq_true rfl) rfl ?_
    refine xV_iload_n e_X3_readCell_9 rfl ?_
    refine xV_bipush (v := (-9)) e_X3_readCell_10 (by decide) ?_
    refine xV_icmp_ne e_X3_readCell_12 (fun h12 => ?_) (fun h12 => ?_)
    · exact absurd rfl h12
    · refine xV_bipush (v := (-9)) e_X3_readCell_15 (by decide) ?_
      refine xV_goto e_X3_readCell_17 ?_
      refine xV_istore_n e_X3_readCell_27 (Nat.le_of_ble_eq_true rfl) rfl ?_
      refine xV_iload_n e_X3_readCell_28 rfl ?_
      refine xV_bipush (v := (-9)) e_X3_readCell_29 (by decide) ?_
      refine xV_icmp_ne e_X3_readCell_31 (fun h31 => ?_) (fun h31 => ?_)
      · exact absurd rfl h31
      · refine xV_bipush (v := (-9)) e_X3_readCell_34 (by decide) ?_
        refine xV_goto e_X3_readCell_36 ?_
        refine xV_istore_n e_X3_readCell_46 (Nat.le_of_ble_eq_true rfl) rfl ?_
        refine xV_iload_n e_X3_readCell_47 rfl ?_
        refine xV_bipush (v := (-9)) e_X3_readCell_48 (by decide) ?_
        refine xV_icmp_ne e_X3_readCell_50 (fun h50 => ?_) (fun h50 => ?_)
        · exact absurd rfl h50
        · refine xV_bipush (v := (-9)) e_X3_readCell_53 (by decide) ?_
          refine xV_goto e_X3_readCell_55 ?_
          refine xV_istore e_X3_readCell_65 (Nat.le_of_ble_eq_true rfl) rfl ?_
          refine xV_iload e_X3_readCell_67 rfl ?_
          refine xV_bipush (v := (-9)) e_X3_readCell_69 (by decide) ?_
          refine xV_icmp_ne e_X3_readCell_71 (fun h71 => ?_) (fun h71 => ?_)
          · exact absurd rfl h71
          · refine xV_iconst (v := (nI 0)) e_X3_readCell_74 (by decide) ?_
            exact xV_zreturn e_X3_readCell_75 rfl rfl rfl ⟨_, rfl, false, rfl, rfl, rfl, F, W, V, p, rfl, KF.rf, hpl, by omega, Or.inl ⟨rfl, T1.1 hT⟩⟩
  · obtain ⟨X2, s2, e1⟩ := T1.2 hT
    obtain ⟨hp1, q, hq2, hqt⟩ := okT_d hT
    have O1 := rd_one4 (txt := (I (m + 1))) (len := len) (p := p + 1) (by omega) hq2 hqt s2
    cases hO : okO (I (m + 1)) len (F 11) ((I (m + 1)) p - nI 48) (p + 1)
    · have k1 : True := trivial
      refine xV_aload_n e_X3_readCell_0 rfl ?_
      refine xV_aload_n e_X3_readCell_1 rfl ?_
      refine xV_getQ e_X3_readCell_2 f_X3_74 m0 ?_
      refine xV_cV1i e_X3_readCell_5 c_X3_77 (by assumption) (C_X3_readCellOf hX hlen h72 hpl hp) (Nat.le_of_ble_eq_true rfl) ⟨(Nat.le_of_ble_eq_true rfl), (Nat.le_of_ble_eq_true rfl)⟩ (xle_r _) (xle_r _) ?_
      rw [if_pos hT, if_pos hT, if_neg (bl_f hO), if_neg (bl_f hO)]
      refine xV_istore_n e_X3_readCell_8 (Nat.le_of_ble_eq_true rfl) rfl ?_
      refine xV_iload_n e_X3_readCell_9 rfl ?_
      refine xV_bipush (v := (-9)) e_X3_readCell_10 (by decide) ?_
      refine xV_icmp_ne e_X3_readCell_12 (fun h12 => ?_) (fun h12 => ?_)
      · exact absurd rfl h12
      · refine xV_bipush (v := (-9)) e_X3_readCell_15 (by decide) ?_
        refine xV_goto e_X3_readCell_17 ?_
        refine xV_istore_n e_X3_readCell_27 (Nat.le_of_ble_eq_true rfl) rfl ?_
        refine xV_iload_n e_X3_readCell_28 rfl ?_
        refine xV_bipush (v := (-9)) e_X3_readCell_29 (by decide) ?_
        refine xV_icmp_ne e_X3_readCell_31 (fun h31 => ?_) (fun h31 => ?_)
        · exact absurd rfl h31
        · refine xV_bipush (v := (-9)) e_X3_readCell_34 (by decide) ?_
          refine xV_goto e_X3_readCell_36 ?_
          refine xV_istore_n e_X3_readCell_46 (Nat.le_of_ble_eq_true rfl) rfl ?_
          refine xV_iload_n e_X3_readCell_47 rfl ?_
          refine xV_bipush (v := (-9)) e_X3_readCell_48 (by decide) ?_
          refine xV_icmp_ne e_X3_readCell_50 (fun h50 => ?_) (fun h50 => ?_)
          · exact absurd rfl h50
          · refine xV_bipush (v := (-9)) e_X3_readCell_53 (by decide) ?_
            refine xV_goto e_X3_readCell_55 ?_
            refine xV_istore e_X3_readCell_65 (Nat.le_of_ble_eq_true rfl) rfl ?_
            refine xV_iload e_X3_readCell_67 rfl ?_
            refine xV_bipush (v := (-9)) e_X3_readCell_69 (by decide) ?_
            refine xV_icmp_ne e_X3_readCell_71 (fun h71 => ?_) (fun h71 => ?_)
            · exact absurd rfl h71
            · refine xV_iconst (v := (nI 0)) e_X3_readCell_74 (by decide) ?_
              exact xV_zreturn e_X3_readCell_75 rfl rfl rfl ⟨_, rfl, false, rfl, rfl, rfl, (upd F 3 (nI (p + 1))), W, V, p + 1, rfl, KF.rf.up (by omega), upd_s, by omega, Or.inl ⟨rfl, by rw [e1, O1.1 hO]⟩⟩
    · obtain ⟨X3, s3, e2⟩ := O1.2 hO
      obtain ⟨hp2, c, hc, hce, hcn⟩ := okO_d hq2 hqt hO
      rw [hce] at s3
      have B1 := rd_am1 (txt := (I (m + 1))) (len := len) (p := p + 1 + 1) (by omega) hc s3
      cases hA1 : okF (I (m + 1)) len (nI 0) (nI 9) (p + 1 + 1)
      · have k2 : True := trivial
        refine xV_aload_n e_X3_readCell_0 rfl ?_
        refine xV_aload_n e_X3_readCell_1 rfl ?_
        refine xV_getQ e_X3_readCell_2 f_X3_74 m0 ?_
        refine xV_cV1i e_X3_readCell_5 c_X3_77 (by assumption) (C_X3_readCellOf hX hlen h72 hpl hp) (Nat.le_of_ble_eq_true rfl) ⟨(Nat.le_of_ble_eq_true rfl), (Nat.le_of_ble_eq_true rfl)⟩ (xle_r _) (xle_r _) ?_
        rw [if_pos hT, if_pos hT, if_pos hO, if_pos hO, hce, show p + 2 = p + 1 + 1 from rfl]
        refine xV_istore_n e_X3_readCell_8 (Nat.le_of_ble_eq_true rfl) rfl ?_
        refine xV_iload_n e_X3_readCell_9 rfl ?_
        refine xV_bipush (v := (-9)) e_X3_readCell_10 (by decide) ?_
        refine xV_icmp_ne e_X3_readCell_12 (fun h12 => ?_) (fun h12 => ?_)
        · refine xV_aload_n e_X3_readCell_20 rfl ?_
          refine xV_iconst (v := (nI 0)) e_X3_readCell_21 (by decide) ?_
          refine xV_bipush (v := (nI 9)) e_X3_readCell_22 (by decide) ?_
          refine xV_cV2i e_X3_readCell_24 c_X3_81 (by assumption) (C_X3_figure (p := p + 1 + 1) hX ((upd_n (by omega)).trans hlen) h72 upd_s (by omega)) (Nat.le_of_ble_eq_true rfl) ⟨(Nat.le_of_ble_eq_true rfl), (Nat.le_of_ble_eq_true rfl)⟩ (xle_r _) (xle_r _) ?_
          rw [if_neg (bl_f hA1), if_neg (bl_f hA1)]
          refine xV_istore_n e_X3_readCell_27 (Nat.le_of_ble_eq_true rfl) rfl ?_
          refine xV_iload_n e_X3_readCell_28 rfl ?_
          refine xV_bipush (v := (-9)) e_X3_readCell_29 (by decide) ?_
          refine xV_icmp_ne e_X3_readCell_31 (fun h31 => ?_) (fun h31 => ?_)
          · exact absurd rfl h31
          · refine xV_bipush (v := (-9)) e_X3_readCell_34 (by decide) ?_
            refine xV_goto e_X3_readCell_36 ?_
            refine xV_istore_n e_X3_readCell_46 (Nat.le_of_ble_eq_true rfl) rfl ?_
            refine xV_iload_n e_X3_readCell_47 rfl ?_
            refine xV_bipush (v := (-9)) e_X3_readCell_48 (by decide) ?_
            refine xV_icmp_ne e_X3_readCell_50 (fun h50 => ?_) (fun h50 => ?_)
            · exact absurd rfl h50
            · refine xV_bipush (v := (-9)) e_X3_readCell_53 (by decide) ?_
              refine xV_goto e_X3_readCell_55 ?_
              refine xV_istore e_X3_readCell_65 (Nat.le_of_ble_eq_true rfl) rfl ?_
              refine xV_iload e_X3_readCell_67 rfl ?_
              refine xV_bipush (v := (-9)) e_X3_readCell_69 (by decide) ?_
              refine xV_icmp_ne e_X3_readCell_71 (fun h71 => ?_) (fun h71 => ?_)
              · exact absurd rfl h71
              · refine xV_iconst (v := (nI 0)) e_X3_readCell_74 (by decide) ?_
                exact xV_zreturn e_X3_readCell_75 rfl rfl rfl ⟨_, rfl, false, rfl, rfl, rfl, (upd F 3 (nI (p + 1 + 1))), W, V, p + 1 + 1, rfl, KF.rf.up (by omega), upd_s, by omega, Or.inl ⟨rfl, by rw [e1, e2, B1.1 hA1]⟩⟩
        · exact absurd h12 (ne9 (by omega))
      · obtain ⟨X4, s4, e3⟩ := B1.2 hA1
        have hp3 := (okF_d hA1).1
        have B2 := rd_am2 (txt := (I (m + 1))) (len := len) (p := p + 1 + 1 + 1) (by omega) hc s4
        cases hA2 : okF (I (m + 1)) len (nI 0) (nI 9) (p + 1 + 1 + 1)
        · have k3 : True := trivial
          refine xV_aload_n e_X3_readCell_0 rfl ?_
          refine xV_aload_n e_X3_readCell_1 rfl ?_
          refine xV_getQ e_X3_readCell_2 f_X3_74 m0 ?_
          refine xV_cV1i e_X3_readCell_5 c_X3_77 (by assumption) (C_X3_readCellOf hX hlen h72 hpl hp) (Nat.le_of_ble_eq_true rfl) ⟨(Nat.le_of_ble_eq_true rfl), (Nat.le_of_ble_eq_true rfl)⟩ (xle_r _) (xle_r _) ?_
          rw [if_pos hT, if_pos hT, if_pos hO, if_pos hO, hce, show p + 2 = p + 1 + 1 from rfl]
          refine xV_istore_n e_X3_readCell_8 (Nat.le_of_ble_eq_true rfl) rfl ?_
          refine xV_iload_n e_X3_readCell_9 rfl ?_
          refine xV_bipush (v := (-9)) e_X3_readCell_10 (by decide) ?_
          refine xV_icmp_ne e_X3_readCell_12 (fun h12 => ?_) (fun h12 => ?_)
          · refine xV_aload_n e_X3_readCell_20 rfl ?_
            refine xV_iconst (v := (nI 0)) e_X3_readCell_21 (by decide) ?_
            refine xV_bipush (v := (nI 9)) e_X3_readCell_22 (by decide) ?_
            refine xV_cV2i e_X3_readCell_24 c_X3_81 (by assumption) (C_X3_figure (p := p + 1 + 1) hX ((upd_n (by omega)).trans hlen) h72 upd_s (by omega)) (Nat.le_of_ble_eq_true rfl) ⟨(Nat.le_of_ble_eq_true rfl), (Nat.le_of_ble_eq_true rfl)⟩ (xle_r _) (xle_r _) ?_
            rw [if_pos hA1, if_pos hA1, upd_twice]
            refine xV_istore_n e_X3_readCell_27 (Nat.le_of_ble_eq_true rfl) rfl ?_
            refine xV_iload_n e_X3_readCell_28 rfl ?_
            refine xV_bipush (v := (-9)) e_X3_readCell_29 (by decide) ?_
            refine xV_icmp_ne e_X3_readCell_31 (fun h31 => ?_) (fun h31 => ?_)
            · refine xV_aload_n e_X3_readCell_39 rfl ?_
              refine xV_iconst (v := (nI 0)) e_X3_readCell_40 (by decide) ?_
              refine xV_bipush (v := (nI 9)) e_X3_readCell_41 (by decide) ?_
              refine xV_cV2i e_X3_readCell_43 c_X3_81 (by assumption) (C_X3_figure (p := p + 1 + 1 + 1) hX ((upd_n (by omega)).trans hlen) h72 upd_s (by omega)) (Nat.le_of_ble_eq_true rfl) ⟨(Nat.le_of_ble_eq_true rfl), (Nat.le_of_ble_eq_true rfl)⟩ (xle_r _) (xle_r _) ?_
              rw [if_neg (bl_f hA2), if_neg (bl_f hA2)]
              refine xV_istore_n e_X3_readCell_46 (Nat.le_of_ble_eq_true rfl) rfl ?_
              refine xV_iload_n e_X3_readCell_47 rfl ?_
              refine xV_bipush (v := (-9)) e_X3_readCell_48 (by decide) ?_
              refine xV_icmp_ne e_X3_readCell_50 (fun h50 => ?_) (fun h50 => ?_)
              · exact absurd rfl h50
              · refine xV_bipush (v := (-9)) e_X3_readCell_53 (by decide) ?_
                refine xV_goto e_X3_readCell_55 ?_
                refine xV_istore e_X3_readCell_65 (Nat.le_of_ble_eq_true rfl) rfl ?_
                refine xV_iload e_X3_readCell_67 rfl ?_
                refine xV_bipush (v := (-9)) e_X3_readCell_69 (by decide) ?_
                refine xV_icmp_ne e_X3_readCell_71 (fun h71 => ?_) (fun h71 => ?_)
                · exact absurd rfl h71
                · refine xV_iconst (v := (nI 0)) e_X3_readCell_74 (by decide) ?_
                  exact xV_zreturn e_X3_readCell_75 rfl rfl rfl ⟨_, rfl, false, rfl, rfl, rfl, (upd F 3 (nI (p + 1 + 1 + 1))), W, V, p + 1 + 1 + 1, rfl, KF.rf.up (by omega), upd_s, by omega, Or.inl ⟨rfl, by rw [e1, e2, e3, B2.1 hA2]⟩⟩
            · exact absurd h31 (okF_ne hA1)
          · exact absurd h12 (ne9 (by omega))
        · obtain ⟨X5, s5, e4⟩ := B2.2 hA2
          have hp4 := (okF_d hA2).1
          have B3 := rd_am3 (txt := (I (m + 1))) (len := len) (p := p + 1 + 1 + 1 + 1) (by omega) hc s5
          cases hA3 : okF (I (m + 1)) len (nI 0) (nI 9) (p + 1 + 1 + 1 + 1)
          · have k4 : True := trivial
            refine xV_aload_n e_X3_readCell_0 rfl ?_
            refine xV_aload_n e_X3_readCell_1 rfl ?_
            refine xV_getQ e_X3_readCell_2 f_X3_74 m0 ?_
            refine xV_cV1i e_X3_readCell_5 c_X3_77 (by assumption) (C_X3_readCellOf hX hlen h72 hpl hp) (Nat.le_of_ble_eq_true rfl) ⟨(Nat.le_of_ble_eq_true rfl), (Nat.le_of_ble_eq_true rfl)⟩ (xle_r _) (xle_r _) ?_
            rw [if_pos hT, if_pos hT, if_pos hO, if_pos hO, hce, show p + 2 = p + 1 + 1 from rfl]
            refine xV_istore_n e_X3_readCell_8 (Nat.le_of_ble_eq_true rfl) rfl ?_
            refine xV_iload_n e_X3_readCell_9 rfl ?_
            refine xV_bipush (v := (-9)) e_X3_readCell_10 (by decide) ?_
            refine xV_icmp_ne e_X3_readCell_12 (fun h12 => ?_) (fun h12 => ?_)
            · refine xV_aload_n e_X3_readCell_20 rfl ?_
              refine xV_iconst (v := (nI 0)) e_X3_readCell_21 (by decide) ?_
              refine xV_bipush (v := (nI 9)) e_X3_readCell_22 (by decide) ?_
              refine xV_cV2i e_X3_readCell_24 c_X3_81 (by assumption) (C_X3_figure (p := p + 1 + 1) hX ((upd_n (by omega)).trans hlen) h72 upd_s (by omega)) (Nat.le_of_ble_eq_true rfl) ⟨(Nat.le_of_ble_eq_true rfl), (Nat.le_of_ble_eq_true rfl)⟩ (xle_r _) (xle_r _) ?_
              rw [if_pos hA1, if_pos hA1, upd_twice]
              refine xV_istore_n e_X3_readCell_27 (Nat.le_of_ble_eq_true rfl) rfl ?_
              refine xV_iload_n e_X3_readCell_28 rfl ?_
              refine xV_bipush (v := (-9)) e_X3_readCell_29 (by decide) ?_
              refine xV_icmp_ne e_X3_readCell_31 (fun h31 => ?_) (fun h31 => ?_)
              · refine xV_aload_n e_X3_readCell_39 rfl ?_
                refine xV_iconst (v := (nI 0)) e_X3_readCell_40 (by decide) ?_
                refine xV_bipush (v := (nI 9)) e_X3_readCell_41 (by decide) ?_
                refine xV_cV2i e_X3_readCell_43 c_X3_81 (by assumption) (C_X3_figure (p := p + 1 + 1 + 1) hX ((upd_n (by omega)).trans hlen) h72 upd_s (by omega)) (Nat.le_of_ble_eq_true rfl) ⟨(Nat.le_of_ble_eq_true rfl), (Nat.le_of_ble_eq_true rfl)⟩ (xle_r _) (xle_r _) ?_
                rw [if_pos hA2, if_pos hA2, upd_twice]
                refine xV_istore_n e_X3_readCell_46 (Nat.le_of_ble_eq_true rfl) rfl ?_
                refine xV_iload_n e_X3_readCell_47 rfl ?_
                refine xV_bipush (v := (-9)) e_X3_readCell_48 (by decide) ?_
                refine xV_icmp_ne e_X3_readCell_50 (fun h50 => ?_) (fun h50 => ?_)
                · refine xV_aload_n e_X3_readCell_58 rfl ?_
                  refine xV_iconst (v := (nI 0)) e_X3_readCell_59 (by decide) ?_
                  refine xV_bipush (v := (nI 9)) e_X3_readCell_60 (by decide) ?_
                  refine xV_cV2i e_X3_readCell_62 c_X3_81 (by assumption) (C_X3_figure (p := p + 1 + 1 + 1 + 1) hX ((upd_n (by omega)).trans hlen) h72 upd_s (by omega)) (Nat.le_of_ble_eq_true rfl) ⟨(Nat.le_of_ble_eq_true rfl), (Nat.le_of_ble_eq_true rfl)⟩ (xle_r _) (xle_r _) ?_
                  rw [if_neg (bl_f hA3), if_neg (bl_f hA3)]
                  refine xV_istore e_X3_readCell_65 (Nat.le_of_ble_eq_true rfl) rfl ?_
                  refine xV_iload e_X3_readCell_67 rfl ?_
                  refine xV_bipush (v := (-9)) e_X3_readCell_69 (by decide) ?_
                  refine xV_icmp_ne e_X3_readCell_71 (fun h71 => ?_) (fun h71 => ?_)
                  · exact absurd rfl h71
                  · refine xV_iconst (v := (nI 0)) e_X3_readCell_74 (by decide) ?_
                    exact xV_zreturn e_X3_readCell_75 rfl rfl rfl ⟨_, rfl, false, rfl, rfl, rfl, (upd F 3 (nI (p + 1 + 1 + 1 + 1))), W, V, p + 1 + 1 + 1 + 1, rfl, KF.rf.up (by omega), upd_s, by omega, Or.inl ⟨rfl, by rw [e1, e2, e3, e4, B3.1 hA3]⟩⟩
                · exact absurd h50 (okF_ne hA2)
              · exact absurd h31 (okF_ne hA1)
            · exact absurd h12 (ne9 (by omega))
          · obtain ⟨X6, s6, e5⟩ := B3.2 hA3
            have hp5 := (okF_d hA3).1
            refine xV_aload_n e_X3_readCell_0 rfl ?_
            refine xV_aload_n e_X3_readCell_1 rfl ?_
            refine xV_getQ e_X3_readCell_2 f_X3_74 m0 ?_
            refine xV_cV1i e_X3_readCell_5 c_X3_77 (by assumption) (C_X3_readCellOf hX hlen h72 hpl hp) (Nat.le_of_ble_eq_true rfl) ⟨(Nat.le_of_ble_eq_true rfl), (Nat.le_of_ble_eq_true rfl)⟩ (xle_r _) (xle_r _) ?_
            rw [if_pos hT, if_pos hT, if_pos hO, if_pos hO, hce, show p + 2 = p + 1 + 1 from rfl]
            refine xV_istore_n e_X3_readCell_8 (Nat.le_of_ble_eq_true rfl) rfl ?_
            refine xV_iload_n e_X3_readCell_9 rfl ?_
            refine xV_bipush (v := (-9)) e_X3_readCell_10 (by decide) ?_
            refine xV_icmp_ne e_X3_readCell_12 (fun h12 => ?_) (fun h12 => ?_)
            · refine xV_aload_n e_X3_readCell_20 rfl ?_
              refine xV_iconst (v := (nI 0)) e_X3_readCell_21 (by decide) ?_
              refine xV_bipush (v := (nI 9)) e_X3_readCell_22 (by decide) ?_
              refine xV_cV2i e_X3_readCell_24 c_X3_81 (by assumption) (C_X3_figure (p := p + 1 + 1) hX ((upd_n (by omega)).trans hlen) h72 upd_s (by omega)) (Nat.le_of_ble_eq_true rfl) ⟨(Nat.le_of_ble_eq_true rfl), (Nat.le_of_ble_eq_true rfl)⟩ (xle_r _) (xle_r _) ?_
              rw [if_pos hA1, if_pos hA1, upd_twice]
              refine xV_istore_n e_X3_readCell_27 (Nat.le_of_ble_eq_true rfl) rfl ?_
              refine xV_iload_n e_X3_readCell_28 rfl ?_
              refine xV_bipush (v := (-9)) e_X3_readCell_29 (by decide) ?_
              refine xV_icmp_ne e_X3_readCell_31 (fun h31 => ?_) (fun h31 => ?_)
              · refine xV_aload_n e_X3_readCell_39 rfl ?_
                refine xV_iconst (v := (nI 0)) e_X3_readCell_40 (by decide) ?_
                refine xV_bipush (v := (nI 9)) e_X3_readCell_41 (by decide) ?_
                refine xV_cV2i e_X3_readCell_43 c_X3_81 (by assumption) (C_X3_figure (p := p + 1 + 1 + 1) hX ((upd_n (by omega)).trans hlen) h72 upd_s (by omega)) (Nat.le_of_ble_eq_true rfl) ⟨(Nat.le_of_ble_eq_true rfl), (Nat.le_of_ble_eq_true rfl)⟩ (xle_r _) (xle_r _) ?_
                rw [if_pos hA2, if_pos hA2, upd_twice]
                refine xV_istore_n e_X3_readCell_46 (Nat.le_of_ble_eq_true rfl) rfl ?_
                refine xV_iload_n e_X3_readCell_47 rfl ?_
                refine xV_bipush (v := (-9)) e_X3_readCell_48 (by decide) ?_
                refine xV_icmp_ne e_X3_readCell_50 (fun h50 => ?_) (fun h50 => ?_)
                · refine xV_aload_n e_X3_readCell_58 rfl ?_
                  refine xV_iconst (v := (nI 0)) e_X3_readCell_59 (by decide) ?_
                  refine xV_bipush (v := (nI 9)) e_X3_readCell_60 (by decide) ?_
                  refine xV_cV2i e_X3_readCell_62 c_X3_81 (by assumption) (C_X3_figure (p := p + 1 + 1 + 1 + 1) hX ((upd_n (by omega)).trans hlen) h72 upd_s (by omega)) (Nat.le_of_ble_eq_true rfl) ⟨(Nat.le_of_ble_eq_true rfl), (Nat.le_of_ble_eq_true rfl)⟩ (xle_r _) (xle_r _) ?_
                  rw [if_pos hA3, if_pos hA3, upd_twice]
                  refine xV_istore e_X3_readCell_65 (Nat.le_of_ble_eq_true rfl) rfl ?_
                  refine xV_iload e_X3_readCell_67 rfl ?_
                  refine xV_bipush (v := (-9)) e_X3_readCell_69 (by decide) ?_
                  refine xV_icmp_ne e_X3_readCell_71 (fun h71 => ?_) (fun h71 => ?_)
                  · refine xV_aload_n e_X3_readCell_76 rfl ?_
                    refine xV_dup e_X3_readCell_77 rfl ?_
                    refine xV_getQ e_X3_readCell_78 f_X3_74 m0 ?_
                    rw [upd_n (by omega)]
                    refine xV_iconst (v := (nI 1)) e_X3_readCell_81 (by decide) ?_
                    refine xV_iload_n e_X3_readCell_82 rfl ?_
                    refine xV_ishl e_X3_readCell_83 ?_
                    refine xV_ior e_X3_readCell_84 ?_
                    refine xV_putQ e_X3_readCell_85 p_X3_74 m0 ?_
                    refine xV_aload_n e_X3_readCell_88 rfl ?_
                    refine xV_getR e_X3_readCell_89 f_X3_23 (by assumption) (by assumption) ?_
                    refine xV_iload_n e_X3_readCell_92 rfl ?_
                    refine xV_iload_n e_X3_readCell_93 rfl ?_
                    first | refine xV_iastQ4 e_X3_readCell_94 (by assumption) (by omega) (by omega) ?_ | refine xV_iastQ5 e_X3_readCell_94 (by assumption) (by omega) (by omega) ?_
                    refine xV_aload_n e_X3_readCell_95 rfl ?_
                    refine xV_getR e_X3_readCell_96 f_X3_23 (by assumption) (by assumption) ?_
                    refine xV_bipush (v := (nI 12)) e_X3_readCell_99 (by decide) ?_
                    refine xV_iload_n e_X3_readCell_101 rfl ?_
                    refine xV_iaddN e_X3_readCell_102 ?_
                    refine xV_iload_n e_X3_readCell_103 rfl ?_
                    first | refine xV_iastQ4 e_X3_readCell_104 (by assumption) (by omega) (by omega) ?_ | refine xV_iastQ5 e_X3_readCell_104 (by assumption) (by omega) (by omega) ?_
                    refine xV_aload_n e_X3_readCell_105 rfl ?_
                    refine xV_getR e_X3_readCell_106 f_X3_23 (by assumption) (by assumption) ?_
                    refine xV_bipush (v := (nI 24)) e_X3_readCell_109 (by decide) ?_
                    refine xV_iload_n e_X3_readCell_111 rfl ?_
                    refine xV_iaddN e_X3_readCell_112 ?_
                    refine xV_iload e_X3_readCell_113 rfl ?_
                    first | refine xV_iastQ4 e_X3_readCell_115 (by assumption) (by omega) (by omega) ?_ | refine xV_iastQ5 e_X3_readCell_115 (by assumption) (by omega) (by omega) ?_
                    refine xV_aload_n e_X3_readCell_116 rfl ?_
                    refine xV_dup e_X3_readCell_117 rfl ?_
                    refine xV_getQ e_X3_readCell_118 f_X3_85 m0 ?_
                    rw [upd_n (by omega), upd_n (by omega), hR.2.1]
                    refine xV_iconst (v := (nI 1)) e_X3_readCell_121 (by decide) ?_
                    refine xV_iaddN e_X3_readCell_122 ?_
                    refine xV_putQ e_X3_readCell_123 p_X3_85 m0 ?_
                    refine xV_iconst (v := (nI 1)) e_X3_readCell_126 (by decide) ?_
                    exact xV_zreturn e_X3_readCell_127 rfl rfl rfl ⟨_, rfl, true, rfl, rfl, rfl, (upd (upd (upd F 3 (nI (p + 1 + 1 + 1 + 1 + 1))) 11 (F 11 ||| (nI 1 <<< (nI c &&& 31)))) 10 (nI (cnt (F 11) + 1))), (upd (upd (upd W c ((I (m + 1)) (p + 1 + 1) - nI 48)) (12 + c) ((I (m + 1)) (p + 1 + 1 + 1) - nI 48)) (24 + c) ((I (m + 1)) (p + 1 + 1 + 1 + 1) - nI 48)), V, p + 1 + 1 + 1 + 1 + 1, rfl, ((KF.rf.up (by omega)).up (by omega)).up (by omega), (upd_n (by omega)).trans ((upd_n (by omega)).trans upd_s), by omega, Or.inr ⟨rfl, by omega, mo, X6, _, _, by rw [upd_n (by omega), upd_s]; exact s6, RR.cell (F' := (upd (upd (upd F 3 (nI (p + 1 + 1 + 1 + 1 + 1))) 11 (F 11 ||| (nI 1 <<< (nI c &&& 31)))) 10 (nI (cnt (F 11) + 1)))) hR hc hcn (okF_v hA1) (okF_v hA2) (okF_v hA3) (by rw [upd_n (by omega), upd_s]) upd_s (by rw [upd_n (by omega), upd_n (by omega), upd_n (by omega)]) (by rw [upd_n (by omega), upd_n (by omega), upd_n (by omega)]), by rw [e1, e2, e3, e4, e5]⟩⟩
                  · exact absurd h71 (okF_ne hA3)
                · exact absurd h50 (okF_ne hA2)
              · exact absurd h31 (okF_ne hA1)
            · exact absurd h12 (ne9 (by omega))
set_option maxHeartbeats 4000000 in
set_option maxRecDepth 100000 in
theorem K_readMonk {m len p mo : Nat} (hX : XM G T R m) {F W V : Nat → Int32} (hlen : F 2 = nI len) (h72 : len ≤ 72) (hpl : F 3 = nI p) (hp : p ≤ len) {S : xS} {X : xRd} {pl : Int32} (hR : RR mo S F W V) (hmo4 : mo < 4) (hS : Sq X (nI 8) (F 11) pl S) : xCon G Y_X3_readMonk [.ref m] T R L (rM I m F W V) (T, fun o2 R2 L2 I2 => ∃ r, o2 = some (.int r) ∧ (∃ rb, r = xb rb ∧ R2 = R ∧ L2 = L ∧ RO (I (m + 1)) len m (p) I (F) (rLoop (I (m + 1)) (len - (p)) (p) X) rb I2)) := by
  obtain ⟨m0, rt, st, rs, ss, rp, sp, rrp, srp, rrs, srs, rb, sb, rk, sk, ri, si, rc, sc, rv, sv, rr, sr⟩ := id hX
  refine xCon.mk (xl := [some (.ref m), none, none]) (by decide +kernel) (xle_r _) rfl (Nat.le_of_ble_eq_true rfl) rfl ?_
  have T1 := rd_ten8 (txt := (I (m + 1))) (len := len) hp hS
  cases hT : okT (I (m + 1)) len (nI 0) p
  · have k0 : True := trivial
    refine xV_aload_n e_X3_readMonk_0 rfl ?_
    refine xV_iconst (v := (nI 0)) e_X3_readMonk_1 (by decide) ?_
    refine xV_cV1i e_X3_readMonk_2 c_X3_77 (by assumption) (C_X3_readCellOf hX hlen h72 hpl hp) (Nat.le_of_ble_eq_true rfl) ⟨(Nat.le_of_ble_eq_true rfl), (Nat.le_of_ble_eq_true rfl)⟩ (xle_r _) (xle_r _) ?_
    rw [if_neg (bl_f hT), if_neg (bl_f hT)]
    refine xV_istore_n e_X3_readMonk_5 (Nat.le_of_ble_eq_true rfl) rfl ?_
    refine xV_iload_n e_X3_readMonk_6 rfl ?_
    refine xV_bipush (v := (-9)) e_X3_readMonk_7 (by decide) ?_
    refine xV_icmp_ne e_X3_readMonk_9 (fun h9 => ?_) (fun h9 => ?_)
    · exact absurd rfl h9
    · refine xV_bipush (v := (-9)) e_X3_readMonk_12 (by decide) ?_
      refine xV_goto e_X3_readMonk_14 ?_
      refine xV_istore_n e_X3_readMonk_23 (Nat.le_of_ble_eq_true rfl) rfl ?_
      refine xV_iload_n e_X3_readMonk_24 rfl ?_
      refine xV_bipush (v := (-9)) e_X3_readMonk_25 (by decide) ?_
      refine xV_icmp_ne e_X3_readMonk_27 (fun h27 => ?_) (fun h27 => ?_)
      · exact absurd rfl h27
      · refine xV_iconst (v := (nI 0)) e_X3_readMonk_30 (by decide) ?_
        exact xV_zreturn e_X3_readMonk_31 rfl rfl rfl ⟨_, rfl, false, rfl, rfl, rfl, F, W, V, p, rfl, KF.rf, hpl, by omega, Or.inl ⟨rfl, T1.1 hT⟩⟩
  · obtain ⟨X2, s2, e1⟩ := T1.2 hT
    obtain ⟨hp1, q, hq2, hqt⟩ := okT_d hT
    have O1 := rd_one9 (txt := (I (m + 1))) (len := len) (p := p + 1) (by omega) hq2 hqt s2
    cases hO : okO (I (m + 1)) len (nI 0) ((I (m + 1)) p - nI 48) (p + 1)
    · have k1 : True := trivial
      refine xV_aload_n e_X3_readMonk_0 rfl ?_
      refine xV_iconst (v := (nI 0)) e_X3_readMonk_1 (by decide) ?_
      refine xV_cV1i e_X3_readMonk_2 c_X3_77 (by assumption) (C_X3_readCellOf hX hlen h72 hpl hp) (Nat.le_of_ble_eq_true rfl) ⟨(Nat.le_of_ble_eq_true rfl), (Nat.le_of_ble_eq_true rfl)⟩ (xle_r _) (xle_r _) ?_
      rw [if_pos hT, if_pos hT, if_neg (bl_f hO), if_neg (bl_f hO)]
      refine xV_istore_n e_X3_readMonk_5 (Nat.le_of_ble_eq_true rfl) rfl ?_
      refine xV_iload_n e_X3_readMonk_6 rfl ?_
      refine xV_bipush (v := (-9)) e_X3_readMonk_7 (by decide) ?_
      refine xV_icmp_ne e_X3_readMonk_9 (fun h9 => ?_) (fun h9 => ?_)
      · exact absurd rfl h9
      · refine xV_bipush (v := (-9)) e_X3_readMonk_12 (by decide) ?_
        refine xV_goto e_X3_readMonk_14 ?_
        refine xV_istore_n e_X3_readMonk_23 (Nat.le_of_ble_eq_true rfl) rfl ?_
        refine xV_iload_n e_X3_readMonk_24 rfl ?_
        refine xV_bipush (v := (-9)) e_X3_readMonk_25 (by decide) ?_
        refine xV_icmp_ne e_X3_readMonk_27 (fun h27 => ?_) (fun h27 => ?_)
        · exact absurd rfl h27
        · refine xV_iconst (v := (nI 0)) e_X3_readMonk_30 (by decide) ?_
          exact xV_zreturn e_X3_readMonk_31 rfl rfl rfl ⟨_, rfl, false, rfl, rfl, rfl, (upd F 3 (nI (p + 1))), W, V, p + 1, rfl, KF.rf.up (by omega), upd_s, by omega, Or.inl ⟨rfl, by rw [e1, O1.1 hO]⟩⟩
    · obtain ⟨X3, s3, e2⟩ := O1.2 hO
      obtain ⟨hp2, c, hc, hce, hcn⟩ := okO_d hq2 hqt hO
      rw [hce] at s3
      have B1 := rd_sect (txt := (I (m + 1))) (len := len) (p := p + 1 + 1) (by omega) s3
      cases hA1 : okF (I (m + 1)) len (nI 0) (nI 1) (p + 1 + 1)
      · have k2 : True := trivial
        refine xV_aload_n e_X3_readMonk_0 rfl ?_
        refine xV_iconst (v := (nI 0)) e_X3_readMonk_1 (by decide) ?_
        refine xV_cV1i e_X3_readMonk_2 c_X3_77 (by assumption) (C_X3_readCellOf hX hlen h72 hpl hp) (Nat.le_of_ble_eq_true rfl) ⟨(Nat.le_of_ble_eq_true rfl), (Nat.le_of_ble_eq_true rfl)⟩ (xle_r _) (xle_r _) ?_
        rw [if_pos hT, if_pos hT, if_pos hO, if_pos hO, hce, show p + 2 = p + 1 + 1 from rfl]
        refine xV_istore_n e_X3_readMonk_5 (Nat.le_of_ble_eq_true rfl) rfl ?_
        refine xV_iload_n e_X3_readMonk_6 rfl ?_
        refine xV_bipush (v := (-9)) e_X3_readMonk_7 (by decide) ?_
        refine xV_icmp_ne e_X3_readMonk_9 (fun h9 => ?_) (fun h9 => ?_)
        · refine xV_aload_n e_X3_readMonk_17 rfl ?_
          refine xV_iconst (v := (nI 0)) e_X3_readMonk_18 (by decide) ?_
          refine xV_iconst (v := (nI 1)) e_X3_readMonk_19 (by decide) ?_
          refine xV_cV2i e_X3_readMonk_20 c_X3_81 (by assumption) (C_X3_figure (p := p + 1 + 1) hX ((upd_n (by omega)).trans hlen) h72 upd_s (by omega)) (Nat.le_of_ble_eq_true rfl) ⟨(Nat.le_of_ble_eq_true rfl), (Nat.le_of_ble_eq_true rfl)⟩ (xle_r _) (xle_r _) ?_
          rw [if_neg (bl_f hA1), if_neg (bl_f hA1)]
          refine xV_istore_n e_X3_readMonk_23 (Nat.le_of_ble_eq_true rfl) rfl ?_
          refine xV_iload_n e_X3_readMonk_24 rfl ?_
          refine xV_bipush (v := (-9)) e_X3_readMonk_25 (by decide) ?_
          refine xV_icmp_ne e_X3_readMonk_27 (fun h27 => ?_) (fun h27 => ?_)
          · exact absurd rfl h27
          · refine xV_iconst (v := (nI 0)) e_X3_readMonk_30 (by decide) ?_
            exact xV_zreturn e_X3_readMonk_31 rfl rfl rfl ⟨_, rfl, false, rfl, rfl, rfl, (upd F 3 (nI (p + 1 + 1))), W, V, p + 1 + 1, rfl, KF.rf.up (by omega), upd_s, by omega, Or.inl ⟨rfl, by rw [e1, e2, B1.1 hA1]⟩⟩
        · exact absurd h9 (ne9 (by omega))
      · obtain ⟨X4, s4, e3⟩ := B1.2 hA1
        have hp3 := (okF_d hA1).1
        have hsv : ((I (m + 1)) (p + 1 + 1) - nI 48) = nI 0 ∨ ((I (m + 1)) (p + 1 + 1) - nI 48) = nI 1 := by
          obtain ⟨j, j1, j2, ej⟩ := bL_j (by decide) (by decide) (okF_d hA1).2
          have : j = 0 ∨ j = 1 := by omega
          rcases this with rfl | rfl
          · exact Or.inl ej
          · exact Or.inr ej
        refine xV_aload_n e_X3_readMonk_0 rfl ?_
        refine xV_iconst (v := (nI 0)) e_X3_readMonk_1 (by decide) ?_
        refine xV_cV1i e_X3_readMonk_2 c_X3_77 (by assumption) (C_X3_readCellOf hX hlen h72 hpl hp) (Nat.le_of_ble_eq_true rfl) ⟨(Nat.le_of_ble_eq_true rfl), (Nat.le_of_ble_eq_true rfl)⟩ (xle_r _) (xle_r _) ?_
        rw [if_pos hT, if_pos hT, if_pos hO, if_pos hO, hce, show p + 2 = p + 1 + 1 from rfl]
        refine xV_istore_n e_X3_readMonk_5 (Nat.le_of_ble_eq_true rfl) rfl ?_
        refine xV_iload_n e_X3_readMonk_6 rfl ?_
        refine xV_bipush (v := (-9)) e_X3_readMonk_7 (by decide) ?_
        refine xV_icmp_ne e_X3_readMonk_9 (fun h9 => ?_) (fun h9 => ?_)
        · refine xV_aload_n e_X3_readMonk_17 rfl ?_
          refine xV_iconst (v := (nI 0)) e_X3_readMonk_18 (by decide) ?_
          refine xV_iconst (v := (nI 1)) e_X3_readMonk_19 (by decide) ?_
          refine xV_cV2i e_X3_readMonk_20 c_X3_81 (by assumption) (C_X3_figure (p := p + 1 + 1) hX ((upd_n (by omega)).trans hlen) h72 upd_s (by omega)) (Nat.le_of_ble_eq_true rfl) ⟨(Nat.le_of_ble_eq_true rfl), (Nat.le_of_ble_eq_true rfl)⟩ (xle_r _) (xle_r _) ?_
          rw [if_pos hA1, if_pos hA1, upd_twice]
          refine xV_istore_n e_X3_readMonk_23 (Nat.le_of_ble_eq_true rfl) rfl ?_
          refine xV_iload_n e_X3_readMonk_24 rfl ?_
          refine xV_bipush (v := (-9)) e_X3_readMonk_25 (by decide) ?_
          refine xV_icmp_ne e_X3_readMonk_27 (fun h27 => ?_) (fun h27 => ?_)
          · refine xV_aload_n e_X3_readMonk_32 rfl ?_
            refine xV_getR e_X3_readMonk_33 f_X3_23 (by assumption) (by assumption) ?_
            refine xV_bipush (v := (nI 49)) e_X3_readMonk_36 (by decide) ?_
            refine xV_aload_n e_X3_readMonk_38 rfl ?_
            refine xV_getQ e_X3_readMonk_39 f_X3_88 m0 ?_
            rw [upd_n (by omega), hR.2.2.1]
            refine xV_iaddN e_X3_readMonk_42 ?_
            refine xV_iload_n e_X3_readMonk_43 rfl ?_
            first | refine xV_iastQ4 e_X3_readMonk_44 (by assumption) (by omega) (by omega) ?_ | refine xV_iastQ5 e_X3_readMonk_44 (by assumption) (by omega) (by omega) ?_
            refine xV_aload_n e_X3_readMonk_45 rfl ?_
            refine xV_getR e_X3_readMonk_46 f_X3_26 (by assumption) (by assumption) ?_
            refine xV_aload_n e_X3_readMonk_49 rfl ?_
            refine xV_getQ e_X3_readMonk_50 f_X3_88 m0 ?_
            rw [upd_n (by omega), hR.2.2.1]
            refine xV_iload_n e_X3_readMonk_53 rfl ?_
            first | refine xV_iastQ4 e_X3_readMonk_54 (by assumption) (by omega) (by omega) ?_ | refine xV_iastQ5 e_X3_readMonk_54 (by assumption) (by omega) (by omega) ?_
            refine xV_aload_n e_X3_readMonk_55 rfl ?_
            refine xV_dup e_X3_readMonk_56 rfl ?_
            refine xV_getQ e_X3_readMonk_57 f_X3_88 m0 ?_
            rw [upd_n (by omega), hR.2.2.1]
            refine xV_iconst (v := (nI 1)) e_X3_readMonk_60 (by decide) ?_
            refine xV_iaddN e_X3_readMonk_61 ?_
            refine xV_putQ e_X3_readMonk_62 p_X3_88 m0 ?_
            refine xV_iconst (v := (nI 1)) e_X3_readMonk_65 (by decide) ?_
            exact xV_zreturn e_X3_readMonk_66 rfl rfl rfl ⟨_, rfl, true, rfl, rfl, rfl, (upd (upd F 3 (nI (p + 1 + 1 + 1))) 9 (nI (mo + 1))), (upd W (49 + mo) (nI c)), (upd V mo ((I (m + 1)) (p + 1 + 1) - nI 48)), p + 1 + 1 + 1, rfl, (KF.rf.up (by omega)).up (by omega), (upd_n (by omega)).trans upd_s, by omega, Or.inr ⟨rfl, by omega, mo + 1, X4, _, _, by rw [upd_n (by omega), upd_n (by omega)]; exact s4, RR.monk (F' := (upd (upd F 3 (nI (p + 1 + 1 + 1))) 9 (nI (mo + 1)))) hR hmo4 hc hsv (by rw [upd_n (by omega), upd_n (by omega)]) (by rw [upd_n (by omega), upd_n (by omega)]) upd_s (by rw [upd_n (by omega), upd_n (by omega)]), by rw [e1, e2, e3]⟩⟩
          · exact absurd h27 (okF_ne hA1)
        · exact absurd h9 (ne9 (by omega))
end XMO
