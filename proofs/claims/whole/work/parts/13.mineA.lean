/-! MINE: reads, loosening, empty, clear, take -/
section XMINE
variable {G : xG} {T : xT} {R : xR} {L : xL} {I : xI}
theorem xloop {P : Nat → Prop} (N : Nat) (h : ∀ k, k ≤ N → (k < N → P (k + 1)) → P k) : ∀ k, k ≤ N → P k := by
  have key : ∀ n k, k + n = N → P k := by
    intro n
    induction n with
    | zero => intro k hk; exact h k (by omega) (fun q => absurd q (by omega))
    | succ n ih => intro k hk; exact h k (by omega) (fun _ => ih (k + 1) (by omega))
  exact fun k hk => key (N - k) k (by omega)
def bMonk (f : Nat → Int32) (m : Int32) : Bool := decide (0 ≤ m) && decide (m < f 6)
def bLiv (f : Nat → Int32) (m : Int32) : Bool := bMonk f m && !hs (f 8) m
def vLiv (f : Nat → Int32) : Int32 := ((nI 1 <<< (f 6 &&& 31)) - nI 1) &&& (f 8 ^^^ (-1))
def vOn (w : Nat → Int32) (cells : Int32) : Nat → Int32
  | 0 => nI 0
  | n + 1 => vOn w cells n ||| (((cells >>> (w n &&& 31)) &&& nI 1) <<< (nI n &&& 31))
def vSum (w : Nat → Int32) : Nat → Int32
  | 0 => nI 0
  | n + 1 => vSum w n + w n
def vDue (f w2 w3 : Nat → Int32) : Nat → Int32
  | 0 => nI 0
  | n + 1 => if w2 n ≤ f 5 + w3 n then vDue f w2 w3 n else vDue f w2 w3 n ||| (nI 1 <<< (nI n &&& 31))
theorem vDue_t {f w2 w3 : Nat → Int32} {n : Nat} (h : w2 n ≤ f 5 + w3 n) : vDue f w2 w3 (n + 1) = vDue f w2 w3 n := by rw [vDue, if_pos h]
theorem vDue_f {f w2 w3 : Nat → Int32} {n : Nat} (h : ¬ w2 n ≤ f 5 + w3 n) : vDue f w2 w3 (n + 1) = vDue f w2 w3 n ||| (nI 1 <<< (nI n &&& 31)) := by rw [vDue, if_neg h]
def mx0 (x : Int32) : Int32 := if nI 0 < x then x else nI 0
def vPw (f w2 w3 : Nat → Int32) : Nat → Int32
  | 0 => nI 0
  | n + 1 => vPw f w2 w3 n + mx0 (w2 n - f 5 - w3 n)
def m99 (x : Int32) : Int32 := if x < nI 99 then x else nI 99
def lsn (opn b : Int32) (w : Nat → Int32) (n : Nat) : Nat → Int32 := fun c => if c < n ∧ hs opn (nI c) = true then m99 (w c + b) else w c
theorem lsn_0 (opn b : Int32) (w : Nat → Int32) : lsn opn b w 0 = w := by funext c; simp [lsn]
theorem lsn_f {opn b : Int32} {w : Nat → Int32} {n : Nat} (h : (opn >>> (nI n &&& 31)) &&& nI 1 = 0) : lsn opn b w (n + 1) = lsn opn b w n := by
  funext c
  have hn : hs opn (nI n) = false := by simp [hs, h]
  unfold lsn
  by_cases e : c = n
  · subst e; simp [hn]
  · have : c < n + 1 ↔ c < n := by omega
    simp [this]
theorem lsn_t {opn b : Int32} {w : Nat → Int32} {n : Nat} (h : ¬ (opn >>> (nI n &&& 31)) &&& nI 1 = 0) : lsn opn b w (n + 1) = upd (lsn opn b w n) n (m99 (lsn opn b w n n + b)) := by
  funext c
  have hn : hs opn (nI n) = true := by simp [hs, h]
  by_cases e : c = n
  · subst e
    simp [lsn, upd, hn]
  · have : c < n + 1 ↔ c < n := by omega
    simp [lsn, upd, e, this]
def zr (w : Nat → Int32) (n : Nat) : Nat → Int32 := fun c => if c < n then nI 0 else w c
theorem zr_0 (w : Nat → Int32) : zr w 0 = w := by funext c; simp [zr]
theorem zr_s (w : Nat → Int32) (n : Nat) : upd (zr w n) n (nI 0) = zr w (n + 1) := by
  funext c
  by_cases e : c = n
  · subst e; simp [zr, upd]
  · have : c < n + 1 ↔ c < n := by omega
    simp [zr, upd, e, this]
theorem zr_at (w : Nat → Int32) (n : Nat) : zr w n n = w n := by simp [zr]
set_option maxHeartbeats 4000000 in
set_option maxRecDepth 100000 in
theorem C_X0_isFallen {f w1 w2 w3 w4 w5 : Nat → Int32} {h : Nat} (hm : MinS G T R h) {c : Int32} : xCon G Y_X0_isFallen [.ref h, .int c] T R L (pm I h (f, w1, w2, w3, w4, w5)) (xD (some (.int (xb (hs (f 9) c)))) T R L (pm I h (f, w1, w2, w3, w4, w5))) := by
  obtain ⟨m0, r0, r1, r2, r3, r4, s1, s2, s3, s4, s5⟩ := id hm
  refine xCon.mk (xl := [some (.ref h), some (.int c)]) (by decide +kernel) (xle_r _) rfl (Nat.le_of_ble_eq_true rfl) rfl ?_
  refine xV_aload_n e_X0_isFallen_0 rfl ?_
  refine xV_getF e_X0_isFallen_1 f_X0_44 (by assumption) ?_
  refine xV_iload_n e_X0_isFallen_4 rfl ?_
  refine xV_cS2i e_X0_isFallen_5 c_X0_59 (C_X2_has) (Nat.le_of_ble_eq_true rfl) ⟨(Nat.le_of_ble_eq_true rfl), (Nat.le_of_ble_eq_true rfl)⟩ (xle_r _) (xle_r _) ?_
  exact xV_zreturn e_X0_isFallen_8 rfl (xb_nar _) rfl ⟨rfl, rfl, rfl, rfl⟩
set_option maxHeartbeats 4000000 in
set_option maxRecDepth 100000 in
theorem C_X0_isMonk {f w1 w2 w3 w4 w5 : Nat → Int32} {h : Nat} (hm : MinS G T R h) {m : Int32} : xCon G Y_X0_isMonk [.ref h, .int m] T R L (pm I h (f, w1, w2, w3, w4, w5)) (xD (some (.int (xb (bMonk f m)))) T R L (pm I h (f, w1, w2, w3, w4, w5))) := by
  obtain ⟨m0, r0, r1, r2, r3, r4, s1, s2, s3, s4, s5⟩ := id hm
  refine xCon.mk (xl := [some (.ref h), some (.int m)]) (by decide +kernel) (xle_r _) rfl (Nat.le_of_ble_eq_true rfl) rfl ?_
  refine xV_iload_n e_X0_isMonk_0 rfl ?_
  refine xV_if_lt e_X0_isMonk_1 (fun h1 => ?_) (fun h1 => ?_)
  · refine xV_iconst (v := (nI 0)) e_X0_isMonk_16 (by decide) ?_
    exact xV_zreturn e_X0_isMonk_17 rfl rfl rfl (by first | exact ⟨xret_t (by simp only [bMonk, Bool.and_eq_true, decide_eq_true_eq]; exact ⟨i_nle h1, Int32.not_le.mp h9⟩), rfl, rfl, rfl⟩ | exact ⟨xret_f (by simp only [bMonk, Bool.and_eq_false_iff, decide_eq_false_iff_not]; first | exact Or.inl (i_nlt h1) | exact Or.inr (Int32.not_lt.mpr h9)), rfl, rfl, rfl⟩)
  · refine xV_iload_n e_X0_isMonk_4 rfl ?_
    refine xV_aload_n e_X0_isMonk_5 rfl ?_
    refine xV_getF e_X0_isMonk_6 f_X0_35 (by assumption) ?_
    refine xV_icmp_ge e_X0_isMonk_9 (fun h9 => ?_) (fun h9 => ?_)
    · refine xV_iconst (v := (nI 0)) e_X0_isMonk_16 (by decide) ?_
      exact xV_zreturn e_X0_isMonk_17 rfl rfl rfl (by first | exact ⟨xret_t (by simp only [bMonk, Bool.and_eq_true, decide_eq_true_eq]; exact ⟨i_nle h1, Int32.not_le.mp h9⟩), rfl, rfl, rfl⟩ | exact ⟨xret_f (by simp only [bMonk, Bool.and_eq_false_iff, decide_eq_false_iff_not]; first | exact Or.inl (i_nlt h1) | exact Or.inr (Int32.not_lt.mpr h9)), rfl, rfl, rfl⟩)
    · refine xV_iconst (v := (nI 1)) e_X0_isMonk_12 (by decide) ?_
      refine xV_goto e_X0_isMonk_13 ?_
      exact xV_zreturn e_X0_isMonk_17 rfl rfl rfl (by first | exact ⟨xret_t (by simp only [bMonk, Bool.and_eq_true, decide_eq_true_eq]; exact ⟨i_nle h1, Int32.not_le.mp h9⟩), rfl, rfl, rfl⟩ | exact ⟨xret_f (by simp only [bMonk, Bool.and_eq_false_iff, decide_eq_false_iff_not]; first | exact Or.inl (i_nlt h1) | exact Or.inr (Int32.not_lt.mpr h9)), rfl, rfl, rfl⟩)
set_option maxHeartbeats 4000000 in
set_option maxRecDepth 100000 in
theorem C_X0_isLiving {f w1 w2 w3 w4 w5 : Nat → Int32} {h : Nat} (hm : MinS G T R h) {m : Int32} : xCon G Y_X0_isLiving [.ref h, .int m] T R L (pm I h (f, w1, w2, w3, w4, w5)) (xD (some (.int (xb (bLiv f m)))) T R L (pm I h (f, w1, w2, w3, w4, w5))) := by
  obtain ⟨m0, r0, r1, r2, r3, r4, s1, s2, s3, s4, s5⟩ := id hm
  refine xCon.mk (xl := [some (.ref h), some (.int m)]) (by decide +kernel) (xle_r _) rfl (Nat.le_of_ble_eq_true rfl) rfl ?_
  refine xV_aload_n e_X0_isLiving_0 rfl ?_
  refine xV_iload_n e_X0_isLiving_1 rfl ?_
  refine xV_cV1i e_X0_isLiving_2 c_X0_63 (by assumption) (C_X0_isMonk hm) (Nat.le_of_ble_eq_true rfl) ⟨(Nat.le_of_ble_eq_true rfl), (Nat.le_of_ble_eq_true rfl)⟩ (xle_r _) (xle_r _) ?_
  refine xV_if_eqB e_X0_isLiving_5 (fun h5 => ?_) (fun h5 => ?_)
  · refine xV_iconst (v := (nI 0)) e_X0_isLiving_23 (by decide) ?_
    exact xV_zreturn e_X0_isLiving_24 rfl rfl rfl (by first | exact ⟨xret_t (by simp_all [bLiv]), rfl, rfl, rfl⟩ | exact ⟨xret_f (by simp_all [bLiv]), rfl, rfl, rfl⟩)
  · refine xV_aload_n e_X0_isLiving_8 rfl ?_
    refine xV_getF e_X0_isLiving_9 f_X0_41 (by assumption) ?_
    refine xV_iload_n e_X0_isLiving_12 rfl ?_
    refine xV_cS2i e_X0_isLiving_13 c_X0_59 (C_X2_has) (Nat.le_of_ble_eq_true rfl) ⟨(Nat.le_of_ble_eq_true rfl), (Nat.le_of_ble_eq_true rfl)⟩ (xle_r _) (xle_r _) ?_
    refine xV_if_neB e_X0_isLiving_16 (fun h16 => ?_) (fun h16 => ?_)
    · refine xV_iconst (v := (nI 0)) e_X0_isLiving_23 (by decide) ?_
      exact xV_zreturn e_X0_isLiving_24 rfl rfl rfl (by first | exact ⟨xret_t (by simp_all [bLiv]), rfl, rfl, rfl⟩ | exact ⟨xret_f (by simp_all [bLiv]), rfl, rfl, rfl⟩)
    · refine xV_iconst (v := (nI 1)) e_X0_isLiving_19 (by decide) ?_
      refine xV_goto e_X0_isLiving_20 ?_
      exact xV_zreturn e_X0_isLiving_24 rfl rfl rfl (by first | exact ⟨xret_t (by simp_all [bLiv]), rfl, rfl, rfl⟩ | exact ⟨xret_f (by simp_all [bLiv]), rfl, rfl, rfl⟩)
set_option maxHeartbeats 4000000 in
set_option maxRecDepth 100000 in
theorem C_X0_living {f w1 w2 w3 w4 w5 : Nat → Int32} {h : Nat} (hm : MinS G T R h)  : xCon G Y_X0_living [.ref h] T R L (pm I h (f, w1, w2, w3, w4, w5)) (xD (some (.int (vLiv f))) T R L (pm I h (f, w1, w2, w3, w4, w5))) := by
  obtain ⟨m0, r0, r1, r2, r3, r4, s1, s2, s3, s4, s5⟩ := id hm
  refine xCon.mk (xl := [some (.ref h)]) (by decide +kernel) (xle_r _) rfl (Nat.le_of_ble_eq_true rfl) rfl ?_
  refine xV_iconst (v := (nI 1)) e_X0_living_0 (by decide) ?_
  refine xV_aload_n e_X0_living_1 rfl ?_
  refine xV_getF e_X0_living_2 f_X0_35 (by assumption) ?_
  refine xV_ishl e_X0_living_5 ?_
  refine xV_iconst (v := (nI 1)) e_X0_living_6 (by decide) ?_
  refine xV_isub e_X0_living_7 ?_
  refine xV_aload_n e_X0_living_8 rfl ?_
  refine xV_getF e_X0_living_9 f_X0_41 (by assumption) ?_
  refine xV_iconst (v := (-1)) e_X0_living_12 (by decide) ?_
  refine xV_ixor e_X0_living_13 ?_
  refine xV_iand e_X0_living_14 ?_
  exact xV_ireturn e_X0_living_15 rfl rfl ⟨rfl, rfl, rfl, rfl⟩
set_option maxHeartbeats 4000000 in
set_option maxRecDepth 100000 in
theorem C_X0_placeOf {f w1 w2 w3 w4 w5 : Nat → Int32} {h : Nat} (hm : MinS G T R h) {m : Int32} : xCon G Y_X0_placeOf [.ref h, .int m] T R L (pm I h (f, w1, w2, w3, w4, w5)) (xD (some (.int (xat 4 w5 m))) T R L (pm I h (f, w1, w2, w3, w4, w5))) := by
  obtain ⟨m0, r0, r1, r2, r3, r4, s1, s2, s3, s4, s5⟩ := id hm
  refine xCon.mk (xl := [some (.ref h), some (.int m)]) (by decide +kernel) (xle_r _) rfl (Nat.le_of_ble_eq_true rfl) rfl ?_
  refine xV_aload_n e_X0_placeOf_0 rfl ?_
  refine xV_getR e_X0_placeOf_1 f_X0_24 (by assumption) (by assumption) ?_
  refine xV_iload_n e_X0_placeOf_4 rfl ?_
  refine xV_cS2i e_X0_placeOf_5 c_X0_67 (C_X2_at (xRow.p5 s5) (by omega)) (Nat.le_of_ble_eq_true rfl) ⟨(Nat.le_of_ble_eq_true rfl), (Nat.le_of_ble_eq_true rfl)⟩ (xle_r _) (xle_r _) ?_
  exact xV_ireturn e_X0_placeOf_8 rfl rfl ⟨rfl, rfl, rfl, rfl⟩
theorem C_X0_placeN {f w1 w2 w3 w4 w5 : Nat → Int32} {h mi pl : Nat} (hm : MinS G T R h) (hmi : mi < 4) (hp : w5 mi = nI pl) : xCon G Y_X0_placeOf [.ref h, .int (nI mi)] T R L (pm I h (f, w1, w2, w3, w4, w5)) (xD (some (.int (nI pl))) T R L (pm I h (f, w1, w2, w3, w4, w5))) := by
  have h := C_X0_placeOf (L := L) (I := I) (f := f) (w1 := w1) (w2 := w2) (w3 := w3) (w4 := w4) (w5 := w5) (m := nI mi) hm
  rwa [xat_N hmi (by omega), hp] at h
set_option maxHeartbeats 4000000 in
set_option maxRecDepth 100000 in
theorem P_X0_monksOn_4 {f w1 w2 w3 w4 w5 : Nat → Int32} {h : Nat} (hm : MinS G T R h) {mo : Nat} (hmo : f 6 = nI mo) (hm4 : mo ≤ 4) {cells : Int32} : ∀ k, k ≤ mo → xV G Y_X0_monksOn T (xD (some (.int (vOn w5 cells mo))) T R L (pm I h (f, w1, w2, w3, w4, w5))) 4 [some (.ref h), some (.int cells), some (.int (vOn w5 cells k)), some (.int (nI k))] [] T R L (pm I h (f, w1, w2, w3, w4, w5)) := by
  obtain ⟨m0, r0, r1, r2, r3, r4, s1, s2, s3, s4, s5⟩ := id hm
  refine xloop mo (fun k hk ih => ?_)
  refine xV_iload_n e_X0_monksOn_4 rfl ?_
  refine xV_aload_n e_X0_monksOn_5 rfl ?_
  refine xV_getF e_X0_monksOn_6 f_X0_35 (by assumption) ?_
  rw [hmo]
  refine xV_icmp_geN e_X0_monksOn_9 (by omega) (by omega) (fun h9 => ?_) (fun h9 => ?_)
  · obtain rfl : k = mo := by omega
    refine xV_iload_n e_X0_monksOn_42 rfl ?_
    exact xV_ireturn e_X0_monksOn_43 rfl rfl ⟨rfl, rfl, rfl, rfl⟩
  · refine xV_iload_n e_X0_monksOn_12 rfl ?_
    refine xV_aload_n e_X0_monksOn_13 rfl ?_
    refine xV_getR e_X0_monksOn_14 f_X0_24 (by assumption) (by assumption) ?_
    refine xV_alenN e_X0_monksOn_17 (by first | exact xRow.p1 (by assumption) | exact xRow.p2 (by assumption) | exact xRow.p3 (by assumption) | exact xRow.p4 (by assumption) | exact xRow.p5 (by assumption)) ?_
    refine xV_icmp_geN e_X0_monksOn_18 (by omega) (by omega) (fun h18 => ?_) (fun h18 => ?_)
    · obtain rfl : k = mo := by omega
      refine xV_iload_n e_X0_monksOn_42 rfl ?_
      exact xV_ireturn e_X0_monksOn_43 rfl rfl ⟨rfl, rfl, rfl, rfl⟩
    · refine xV_iload_n e_X0_monksOn_21 rfl ?_
      refine xV_iload_n e_X0_monksOn_22 rfl ?_
      refine xV_aload_n e_X0_monksOn_23 rfl ?_
      refine xV_getR e_X0_monksOn_24 f_X0_24 (by assumption) (by assumption) ?_
      refine xV_iload_n e_X0_monksOn_27 rfl ?_
      refine xV_ialdN e_X0_monksOn_28 (by first | exact xRow.p1 (by assumption) | exact xRow.p2 (by assumption) | exact xRow.p3 (by assumption) | exact xRow.p4 (by assumption) | exact xRow.p5 (by assumption)) (by omega) (by omega) ?_
      refine xV_ishr e_X0_monksOn_29 ?_
      refine xV_iconst (v := (nI 1)) e_X0_monksOn_30 (by decide) ?_
      refine xV_iand e_X0_monksOn_31 ?_
      refine xV_iload_n e_X0_monksOn_32 rfl ?_
      refine xV_ishl e_X0_monksOn_33 ?_
      refine xV_ior e_X0_monksOn_34 ?_
      refine xV_istore_n e_X0_monksOn_35 (Nat.le_of_ble_eq_true rfl) rfl ?_
      refine xV_iincN e_X0_monksOn_36 rfl rfl ?_
      refine xV_goto e_X0_monksOn_39 ?_
      exact ih (by omega)
set_option maxHeartbeats 4000000 in
set_option maxRecDepth 100000 in
theorem C_X0_monksOn {f w1 w2 w3 w4 w5 : Nat → Int32} {h : Nat} (hm : MinS G T R h) {mo : Nat} (hmo : f 6 = nI mo) (hm4 : mo ≤ 4) {cells : Int32} : xCon G Y_X0_monksOn [.ref h, .int cells] T R L (pm I h (f, w1, w2, w3, w4, w5)) (xD (some (.int (vOn w5 cells mo))) T R L (pm I h (f, w1, w2, w3, w4, w5))) := by
  obtain ⟨m0, r0, r1, r2, r3, r4, s1, s2, s3, s4, s5⟩ := id hm
  refine xCon.mk (xl := [some (.ref h), some (.int cells), none, none]) (by decide +kernel) (xle_r _) rfl (Nat.le_of_ble_eq_true rfl) rfl ?_
  refine xV_iconst (v := (nI 0)) e_X0_monksOn_0 (by decide) ?_
  refine xV_istore_n e_X0_monksOn_1 (Nat.le_of_ble_eq_true rfl) rfl ?_
  refine xV_iconst (v := (nI 0)) e_X0_monksOn_2 (by decide) ?_
  refine xV_istore_n e_X0_monksOn_3 (Nat.le_of_ble_eq_true rfl) rfl ?_
  exact P_X0_monksOn_4 hm hmo hm4 0 (Nat.zero_le _)
set_option maxHeartbeats 4000000 in
set_option maxRecDepth 100000 in
theorem P_X0_oreLeft_4 {f w1 w2 w3 w4 w5 : Nat → Int32} {h : Nat} (hm : MinS G T R h)  : ∀ k, k ≤ 12 → xV G Y_X0_oreLeft T (xD (some (.int (vSum w1 12))) T R L (pm I h (f, w1, w2, w3, w4, w5))) 4 [some (.ref h), some (.int (vSum w1 k)), some (.int (nI k))] [] T R L (pm I h (f, w1, w2, w3, w4, w5)) := by
  obtain ⟨m0, r0, r1, r2, r3, r4, s1, s2, s3, s4, s5⟩ := id hm
  refine xloop 12 (fun k hk ih => ?_)
  refine xV_iload_n e_X0_oreLeft_4 rfl ?_
  refine xV_aload_n e_X0_oreLeft_5 rfl ?_
  refine xV_getR e_X0_oreLeft_6 f_X0_9 (by assumption) (by assumption) ?_
  refine xV_alenN e_X0_oreLeft_9 (by first | exact xRow.p1 (by assumption) | exact xRow.p2 (by assumption) | exact xRow.p3 (by assumption) | exact xRow.p4 (by assumption) | exact xRow.p5 (by assumption)) ?_
  refine xV_icmp_geN e_X0_oreLeft_10 (by omega) (by omega) (fun h10 => ?_) (fun h10 => ?_)
  · obtain rfl : k = 12 := by omega
    refine xV_iload_n e_X0_oreLeft_28 rfl ?_
    exact xV_ireturn e_X0_oreLeft_29 rfl rfl ⟨rfl, rfl, rfl, rfl⟩
  · refine xV_iload_n e_X0_oreLeft_13 rfl ?_
    refine xV_aload_n e_X0_oreLeft_14 rfl ?_
    refine xV_getR e_X0_oreLeft_15 f_X0_9 (by assumption) (by assumption) ?_
    refine xV_iload_n e_X0_oreLeft_18 rfl ?_
    refine xV_ialdN e_X0_oreLeft_19 (by first | exact xRow.p1 (by assumption) | exact xRow.p2 (by assumption) | exact xRow.p3 (by assumption) | exact xRow.p4 (by assumption) | exact xRow.p5 (by assumption)) (by omega) (by omega) ?_
    refine xV_iadd e_X0_oreLeft_20 ?_
    refine xV_istore_n e_X0_oreLeft_21 (Nat.le_of_ble_eq_true rfl) rfl ?_
    refine xV_iincN e_X0_oreLeft_22 rfl rfl ?_
    refine xV_goto e_X0_oreLeft_25 ?_
    exact ih (by omega)
set_option maxHeartbeats 4000000 in
set_option maxRecDepth 100000 in
theorem C_X0_oreLeft {f w1 w2 w3 w4 w5 : Nat → Int32} {h : Nat} (hm : MinS G T R h)  : xCon G Y_X0_oreLeft [.ref h] T R L (pm I h (f, w1, w2, w3, w4, w5)) (xD (some (.int (vSum w1 12))) T R L (pm I h (f, w1, w2, w3, w4, w5))) := by
  obtain ⟨m0, r0, r1, r2, r3, r4, s1, s2, s3, s4, s5⟩ := id hm
  refine xCon.mk (xl := [some (.ref h), none, none]) (by decide +kernel) (xle_r _) rfl (Nat.le_of_ble_eq_true rfl) rfl ?_
  refine xV_iconst (v := (nI 0)) e_X0_oreLeft_0 (by decide) ?_
  refine xV_istore_n e_X0_oreLeft_1 (Nat.le_of_ble_eq_true rfl) rfl ?_
  refine xV_iconst (v := (nI 0)) e_X0_oreLeft_2 (by decide) ?_
  refine xV_istore_n e_X0_oreLeft_3 (Nat.le_of_ble_eq_true rfl) rfl ?_
  exact P_X0_oreLeft_4 hm 0 (Nat.zero_le _)
set_option maxHeartbeats 4000000 in
set_option maxRecDepth 100000 in
theorem P_X0_tooLoose_4 {f w1 w2 w3 w4 w5 : Nat → Int32} {h : Nat} (hm : MinS G T R h)  : ∀ k, k ≤ 12 → xV G Y_X0_tooLoose T (xD (some (.int (vDue f w2 w3 12))) T R L (pm I h (f, w1, w2, w3, w4, w5))) 4 [some (.ref h), some (.int (vDue f w2 w3 k)), some (.int (nI k))] [] T R L (pm I h (f, w1, w2, w3, w4, w5)) := by
  obtain ⟨m0, r0, r1, r2, r3, r4, s1, s2, s3, s4, s5⟩ := id hm
  refine xloop 12 (fun k hk ih => ?_)
  refine xV_iload_n e_X0_tooLoose_4 rfl ?_
  refine xV_aload_n e_X0_tooLoose_5 rfl ?_
  refine xV_getR e_X0_tooLoose_6 f_X0_15 (by assumption) (by assumption) ?_
  refine xV_alenN e_X0_tooLoose_9 (by first | exact xRow.p1 (by assumption) | exact xRow.p2 (by assumption) | exact xRow.p3 (by assumption) | exact xRow.p4 (by assumption) | exact xRow.p5 (by assumption)) ?_
  refine xV_icmp_geN e_X0_tooLoose_10 (by omega) (by omega) (fun h10 => ?_) (fun h10 => ?_)
  · obtain rfl : k = 12 := by omega
    refine xV_iload_n e_X0_tooLoose_54 rfl ?_
    exact xV_ireturn e_X0_tooLoose_55 rfl rfl ⟨rfl, rfl, rfl, rfl⟩
  · refine xV_iload_n e_X0_tooLoose_13 rfl ?_
    refine xV_aload_n e_X0_tooLoose_14 rfl ?_
    refine xV_getR e_X0_tooLoose_15 f_X0_18 (by assumption) (by assumption) ?_
    refine xV_alenN e_X0_tooLoose_18 (by first | exact xRow.p1 (by assumption) | exact xRow.p2 (by assumption) | exact xRow.p3 (by assumption) | exact xRow.p4 (by assumption) | exact xRow.p5 (by assumption)) ?_
    refine xV_icmp_geN e_X0_tooLoose_19 (by omega) (by omega) (fun h19 => ?_) (fun h19 => ?_)
    · obtain rfl : k = 12 := by omega
      refine xV_iload_n e_X0_tooLoose_54 rfl ?_
      exact xV_ireturn e_X0_tooLoose_55 rfl rfl ⟨rfl, rfl, rfl, rfl⟩
    · refine xV_aload_n e_X0_tooLoose_22 rfl ?_
      refine xV_getR e_X0_tooLoose_23 f_X0_15 (by assumption) (by assumption) ?_
      refine xV_iload_n e_X0_tooLoose_26 rfl ?_
      refine xV_ialdN e_X0_tooLoose_27 (by first | exact xRow.p1 (by assumption) | exact xRow.p2 (by assumption) | exact xRow.p3 (by assumption) | exact xRow.p4 (by assumption) | exact xRow.p5 (by assumption)) (by omega) (by omega) ?_
      refine xV_aload_n e_X0_tooLoose_28 rfl ?_
      refine xV_getF e_X0_tooLoose_29 f_X0_27 (by assumption) ?_
      refine xV_aload_n e_X0_tooLoose_32 rfl ?_
      refine xV_getR e_X0_tooLoose_33 f_X0_18 (by assumption) (by assumption) ?_
      refine xV_iload_n e_X0_tooLoose_36 rfl ?_
      refine xV_ialdN e_X0_tooLoose_37 (by first | exact xRow.p1 (by assumption) | exact xRow.p2 (by assumption) | exact xRow.p3 (by assumption) | exact xRow.p4 (by assumption) | exact xRow.p5 (by assumption)) (by omega) (by omega) ?_
      refine xV_iadd e_X0_tooLoose_38 ?_
      refine xV_icmp_le e_X0_tooLoose_39 (fun h39 => ?_) (fun h39 => ?_)
      · refine xV_iincN e_X0_tooLoose_48 rfl rfl ?_
        refine xV_goto e_X0_tooLoose_51 ?_
        have q := ih (by omega)
        first | rw [vDue_t (n := k) h39] at q | rw [vDue_f (n := k) h39] at q
        exact q
      · refine xV_iload_n e_X0_tooLoose_42 rfl ?_
        refine xV_iconst (v := (nI 1)) e_X0_tooLoose_43 (by decide) ?_
        refine xV_iload_n e_X0_tooLoose_44 rfl ?_
        refine xV_ishl e_X0_tooLoose_45 ?_
        refine xV_ior e_X0_tooLoose_46 ?_
        refine xV_istore_n e_X0_tooLoose_47 (Nat.le_of_ble_eq_true rfl) rfl ?_
        refine xV_iincN e_X0_tooLoose_48 rfl rfl ?_
        refine xV_goto e_X0_tooLoose_51 ?_
        have q := ih (by omega)
        first | rw [vDue_t (n := k) h39] at q | rw [vDue_f (n := k) h39] at q
        exact q
set_option maxHeartbeats 4000000 in
set_option maxRecDepth 100000 in
theorem C_X0_tooLoose {f w1 w2 w3 w4 w5 : Nat → Int32} {h : Nat} (hm : MinS G T R h)  : xCon G Y_X0_tooLoose [.ref h] T R L (pm I h (f, w1, w2, w3, w4, w5)) (xD (some (.int (vDue f w2 w3 12))) T R L (pm I h (f, w1, w2, w3, w4, w5))) := by
  obtain ⟨m0, r0, r1, r2, r3, r4, s1, s2, s3, s4, s5⟩ := id hm
  refine xCon.mk (xl := [some (.ref h), none, none]) (by decide +kernel) (xle_r _) rfl (Nat.le_of_ble_eq_true rfl) rfl ?_
  refine xV_iconst (v := (nI 0)) e_X0_tooLoose_0 (by decide) ?_
  refine xV_istore_n e_X0_tooLoose_1 (Nat.le_of_ble_eq_true rfl) rfl ?_
  refine xV_iconst (v := (nI 0)) e_X0_tooLoose_2 (by decide) ?_
  refine xV_istore_n e_X0_tooLoose_3 (Nat.le_of_ble_eq_true rfl) rfl ?_
  exact P_X0_tooLoose_4 hm 0 (Nat.zero_le _)
set_option maxHeartbeats 4000000 in
set_option maxRecDepth 100000 in
theorem P_X0_propsWanting_4 {f w1 w2 w3 w4 w5 : Nat → Int32} {h : Nat} (hm : MinS G T R h)  : ∀ k, k ≤ 12 → xV G Y_X0_propsWanting T (xD (some (.int (vPw f w2 w3 12))) T R L (pm I h (f, w1, w2, w3, w4, w5))) 4 [some (.ref h), some (.int (vPw f w2 w3 k)), some (.int (nI k))] [] T R L (pm I h (f, w1, w2, w3, w4, w5)) := by
  obtain ⟨m0, r0, r1, r2, r3, r4, s1, s2, s3, s4, s5⟩ := id hm
  refine xloop 12 (fun k hk ih => ?_)
  refine xV_iload_n e_X0_propsWanting_4 rfl ?_
  refine xV_aload_n e_X0_propsWanting_5 rfl ?_
  refine xV_getR e_X0_propsWanting_6 f_X0_15 (by assumption) (by assumption) ?_
  refine xV_alenN e_X0_propsWanting_9 (by first | exact xRow.p1 (by assumption) | exact xRow.p2 (by assumption) | exact xRow.p3 (by assumption) | exact xRow.p4 (by assumption) | exact xRow.p5 (by assumption)) ?_
  refine xV_icmp_geN e_X0_propsWanting_10 (by omega) (by omega) (fun h10 => ?_) (fun h10 => ?_)
  · obtain rfl : k = 12 := by omega
    refine xV_iload_n e_X0_propsWanting_53 rfl ?_
    exact xV_ireturn e_X0_propsWanting_54 rfl rfl ⟨rfl, rfl, rfl, rfl⟩
  · refine xV_iload_n e_X0_propsWanting_13 rfl ?_
    refine xV_aload_n e_X0_propsWanting_14 rfl ?_
    refine xV_getR e_X0_propsWanting_15 f_X0_18 (by assumption) (by assumption) ?_
    refine xV_alenN e_X0_propsWanting_18 (by first | exact xRow.p1 (by assumption) | exact xRow.p2 (by assumption) | exact xRow.p3 (by assumption) | exact xRow.p4 (by assumption) | exact xRow.p5 (by assumption)) ?_
    refine xV_icmp_geN e_X0_propsWanting_19 (by omega) (by omega) (fun h19 => ?_) (fun h19 => ?_)
    · obtain rfl : k = 12 := by omega
      refine xV_iload_n e_X0_propsWanting_53 rfl ?_
      exact xV_ireturn e_X0_propsWanting_54 rfl rfl ⟨rfl, rfl, rfl, rfl⟩
    · refine xV_iload_n e_X0_propsWanting_22 rfl ?_
      refine xV_iconst (v := (nI 0)) e_X0_propsWanting_23 (by decide) ?_
      refine xV_aload_n e_X0_propsWanting_24 rfl ?_
      refine xV_getR e_X0_propsWanting_25 f_X0_15 (by assumption) (by assumption) ?_
      refine xV_iload_n e_X0_propsWanting_28 rfl ?_
      refine xV_ialdN e_X0_propsWanting_29 (by first | exact xRow.p1 (by assumption) | exact xRow.p2 (by assumption) | exact xRow.p3 (by assumption) | exact xRow.p4 (by assumption) | exact xRow.p5 (by assumption)) (by omega) (by omega) ?_
      refine xV_aload_n e_X0_propsWanting_30 rfl ?_
      refine xV_getF e_X0_propsWanting_31 f_X0_27 (by assumption) ?_
      refine xV_isub e_X0_propsWanting_34 ?_
      refine xV_aload_n e_X0_propsWanting_35 rfl ?_
      refine xV_getR e_X0_propsWanting_36 f_X0_18 (by assumption) (by assumption) ?_
      refine xV_iload_n e_X0_propsWanting_39 rfl ?_
      refine xV_ialdN e_X0_propsWanting_40 (by first | exact xRow.p1 (by assumption) | exact xRow.p2 (by assumption) | exact xRow.p3 (by assumption) | exact xRow.p4 (by assumption) | exact xRow.p5 (by assumption)) (by omega) (by omega) ?_
      refine xV_isub e_X0_propsWanting_41 ?_
      refine xV_cS2i e_X0_propsWanting_42 c_X0_111 (C_J9_max_7cf53) (Nat.le_of_ble_eq_true rfl) ⟨(Nat.le_of_ble_eq_true rfl), (Nat.le_of_ble_eq_true rfl)⟩ (xle_r _) (xle_r _) ?_
      refine xV_iadd e_X0_propsWanting_45 ?_
      refine xV_istore_n e_X0_propsWanting_46 (Nat.le_of_ble_eq_true rfl) rfl ?_
      refine xV_iincN e_X0_propsWanting_47 rfl rfl ?_
      refine xV_goto e_X0_propsWanting_50 ?_
      exact ih (by omega)
set_option maxHeartbeats 4000000 in
set_option maxRecDepth 100000 in
theorem C_X0_propsWanting {f w1 w2 w3 w4 w5 : Nat → Int32} {h : Nat} (hm : MinS G T R h)  : xCon G Y_X0_propsWanting [.ref h] T R L (pm I h (f, w1, w2, w3, w4, w5)) (xD (some (.int (vPw f w2 w3 12))) T R L (pm I h (f, w1, w2, w3, w4, w5))) := by
  obtain ⟨m0, r0, r1, r2, r3, r4, s1, s2, s3, s4, s5⟩ := id hm
  refine xCon.mk (xl := [some (.ref h), none, none]) (by decide +kernel) (xle_r _) rfl (Nat.le_of_ble_eq_true rfl) rfl ?_
  refine xV_iconst (v := (nI 0)) e_X0_propsWanting_0 (by decide) ?_
  refine xV_istore_n e_X0_propsWanting_1 (Nat.le_of_ble_eq_true rfl) rfl ?_
  refine xV_iconst (v := (nI 0)) e_X0_propsWanting_2 (by decide) ?_
  refine xV_istore_n e_X0_propsWanting_3 (Nat.le_of_ble_eq_true rfl) rfl ?_
  exact P_X0_propsWanting_4 hm 0 (Nat.zero_le _)
set_option maxHeartbeats 4000000 in
set_option maxRecDepth 100000 in
theorem P_X0_loosen_12 {f w1 w2 w3 w4 w5 : Nat → Int32} {h : Nat} (hm : MinS G T R h) {opn b cells : Int32} : ∀ k, k ≤ 12 → xV G Y_X0_loosen T (xD (none) T R L (pm I h (f, w1, lsn opn b w2 12, w3, w4, w5))) 12 [some (.ref h), some (.int cells), some (.int b), some (.int opn), some (.int (nI k))] [] T R L (pm I h (f, w1, lsn opn b w2 k, w3, w4, w5)) := by
  obtain ⟨m0, r0, r1, r2, r3, r4, s1, s2, s3, s4, s5⟩ := id hm
  refine xloop 12 (fun k hk ih => ?_)
  refine xV_iload e_X0_loosen_12 rfl ?_
  refine xV_aload_n e_X0_loosen_14 rfl ?_
  refine xV_getR e_X0_loosen_15 f_X0_15 (by assumption) (by assumption) ?_
  refine xV_alenN e_X0_loosen_18 (by first | exact xRow.p1 (by assumption) | exact xRow.p2 (by assumption) | exact xRow.p3 (by assumption) | exact xRow.p4 (by assumption) | exact xRow.p5 (by assumption)) ?_
  refine xV_icmp_geN e_X0_loosen_19 (by omega) (by omega) (fun h19 => ?_) (fun h19 => ?_)
  · obtain rfl : k = 12 := by omega
    exact xV_return e_X0_loosen_58 rfl rfl ⟨rfl, rfl, rfl, rfl⟩
  · refine xV_iload_n e_X0_loosen_22 rfl ?_
    refine xV_iload e_X0_loosen_23 rfl ?_
    refine xV_ishr e_X0_loosen_25 ?_
    refine xV_iconst (v := (nI 1)) e_X0_loosen_26 (by decide) ?_
    refine xV_iand e_X0_loosen_27 ?_
    refine xV_if_eq e_X0_loosen_28 (fun h28 => ?_) (fun h28 => ?_)
    · refine xV_iincN e_X0_loosen_52 rfl rfl ?_
      refine xV_goto e_X0_loosen_55 ?_
      have q := ih (by omega)
      first | rw [lsn_f h28] at q | rw [lsn_t h28] at q
      exact q
    · refine xV_aload_n e_X0_loosen_31 rfl ?_
      refine xV_getR e_X0_loosen_32 f_X0_15 (by assumption) (by assumption) ?_
      refine xV_iload e_X0_loosen_35 rfl ?_
      refine xV_bipush (v := (nI 99)) e_X0_loosen_37 (by decide) ?_
      refine xV_aload_n e_X0_loosen_39 rfl ?_
      refine xV_getR e_X0_loosen_40 f_X0_15 (by assumption) (by assumption) ?_
      refine xV_iload e_X0_loosen_43 rfl ?_
      refine xV_ialdN e_X0_loosen_45 (by first | exact xRow.p1 (by assumption) | exact xRow.p2 (by assumption) | exact xRow.p3 (by assumption) | exact xRow.p4 (by assumption) | exact xRow.p5 (by assumption)) (by omega) (by omega) ?_
      refine xV_iload_n e_X0_loosen_46 rfl ?_
      refine xV_iadd e_X0_loosen_47 ?_
      refine xV_cS2i e_X0_loosen_48 c_X0_117 (C_J9_min_7cf53) (Nat.le_of_ble_eq_true rfl) ⟨(Nat.le_of_ble_eq_true rfl), (Nat.le_of_ble_eq_true rfl)⟩ (xle_r _) (xle_r _) ?_
      first | refine xV_iast1 e_X0_loosen_51 (by assumption) (by omega) (by omega) ?_ | refine xV_iast2 e_X0_loosen_51 (by assumption) (by omega) (by omega) ?_ | refine xV_iast3 e_X0_loosen_51 (by assumption) (by omega) (by omega) ?_ | refine xV_iast4 e_X0_loosen_51 (by assumption) (by omega) (by omega) ?_ | refine xV_iast5 e_X0_loosen_51 (by assumption) (by omega) (by omega) ?_
      refine xV_iincN e_X0_loosen_52 rfl rfl ?_
      refine xV_goto e_X0_loosen_55 ?_
      have q := ih (by omega)
      first | rw [lsn_f h28] at q | rw [lsn_t h28] at q
      exact q
set_option maxHeartbeats 4000000 in
set_option maxRecDepth 100000 in
theorem C_X0_loosen {f w1 w2 w3 w4 w5 : Nat → Int32} {h : Nat} (hm : MinS G T R h) {cells b : Int32} : xCon G Y_X0_loosen [.ref h, .int cells, .int b] T R L (pm I h (f, w1, w2, w3, w4, w5)) (xD (none) T R L (pm I h (f, w1, lsn (cells &&& (f 9 ^^^ (-1))) b w2 12, w3, w4, w5))) := by
  obtain ⟨m0, r0, r1, r2, r3, r4, s1, s2, s3, s4, s5⟩ := id hm
  refine xCon.mk (xl := [some (.ref h), some (.int cells), some (.int b), none, none]) (by decide +kernel) (xle_r _) rfl (Nat.le_of_ble_eq_true rfl) rfl ?_
  refine xV_iload_n e_X0_loosen_0 rfl ?_
  refine xV_aload_n e_X0_loosen_1 rfl ?_
  refine xV_getF e_X0_loosen_2 f_X0_44 (by assumption) ?_
  refine xV_iconst (v := (-1)) e_X0_loosen_5 (by decide) ?_
  refine xV_ixor e_X0_loosen_6 ?_
  refine xV_iand e_X0_loosen_7 ?_
  refine xV_istore_n e_X0_loosen_8 (Nat.le_of_ble_eq_true rfl) rfl ?_
  refine xV_iconst (v := (nI 0)) e_X0_loosen_9 (by decide) ?_
  refine xV_istore e_X0_loosen_10 (Nat.le_of_ble_eq_true rfl) rfl ?_
  have q := P_X0_loosen_12 (L := L) (I := I) (f := f) (w1 := w1) (w2 := w2) (w3 := w3) (w4 := w4) (w5 := w5) (opn := cells &&& (f 9 ^^^ (-1))) (b := b) (cells := cells) hm 0 (Nat.zero_le _)
  rw [lsn_0] at q
  exact q
set_option maxHeartbeats 4000000 in
set_option maxRecDepth 100000 in
theorem C_X0_empty {f w1 w2 w3 w4 w5 : Nat → Int32} {h : Nat} (hm : MinS G T R h) {k : Nat} (hk : k < 12) : xCon G Y_X0_empty [.ref h, .int (nI k)] T R L (pm I h (f, w1, w2, w3, w4, w5)) (xD (none) T R L (pm I h (f, upd w1 k (nI 0), upd w2 k (nI 0), upd w3 k (nI 0), upd w4 k (nI 0), w5))) := by
  obtain ⟨m0, r0, r1, r2, r3, r4, s1, s2, s3, s4, s5⟩ := id hm
  refine xCon.mk (xl := [some (.ref h), some (.int (nI k))]) (by decide +kernel) (xle_r _) rfl (Nat.le_of_ble_eq_true rfl) rfl ?_
  refine xV_aload_n e_X0_empty_0 rfl ?_
  refine xV_getR e_X0_empty_1 f_X0_9 (by assumption) (by assumption) ?_
  refine xV_iload_n e_X0_empty_4 rfl ?_
  refine xV_iconst (v := (nI 0)) e_X0_empty_5 (by decide) ?_
  refine xV_cS3v e_X0_empty_6 c_X0_71 (C_X2_put1 s1 hk (by omega)) (Nat.le_of_ble_eq_true rfl) ⟨(Nat.le_of_ble_eq_true rfl), (Nat.le_of_ble_eq_true rfl)⟩ (xle_r _) (xle_r _) ?_
  refine xV_aload_n e_X0_empty_9 rfl ?_
  refine xV_getR e_X0_empty_10 f_X0_15 (by assumption) (by assumption) ?_
  refine xV_iload_n e_X0_empty_13 rfl ?_
  refine xV_iconst (v := (nI 0)) e_X0_empty_14 (by decide) ?_
  refine xV_cS3v e_X0_empty_15 c_X0_71 (C_X2_put2 s2 hk (by omega)) (Nat.le_of_ble_eq_true rfl) ⟨(Nat.le_of_ble_eq_true rfl), (Nat.le_of_ble_eq_true rfl)⟩ (xle_r _) (xle_r _) ?_
  refine xV_aload_n e_X0_empty_18 rfl ?_
  refine xV_getR e_X0_empty_19 f_X0_18 (by assumption) (by assumption) ?_
  refine xV_iload_n e_X0_empty_22 rfl ?_
  refine xV_iconst (v := (nI 0)) e_X0_empty_23 (by decide) ?_
  refine xV_cS3v e_X0_empty_24 c_X0_71 (C_X2_put3 s3 hk (by omega)) (Nat.le_of_ble_eq_true rfl) ⟨(Nat.le_of_ble_eq_true rfl), (Nat.le_of_ble_eq_true rfl)⟩ (xle_r _) (xle_r _) ?_
  refine xV_aload_n e_X0_empty_27 rfl ?_
  refine xV_getR e_X0_empty_28 f_X0_21 (by assumption) (by assumption) ?_
  refine xV_iload_n e_X0_empty_31 rfl ?_
  refine xV_iconst (v := (nI 0)) e_X0_empty_32 (by decide) ?_
  refine xV_cS3v e_X0_empty_33 c_X0_71 (C_X2_put4 s4 hk (by omega)) (Nat.le_of_ble_eq_true rfl) ⟨(Nat.le_of_ble_eq_true rfl), (Nat.le_of_ble_eq_true rfl)⟩ (xle_r _) (xle_r _) ?_
  exact xV_return e_X0_empty_36 rfl rfl ⟨rfl, rfl, rfl, rfl⟩
def clrF (f : Nat → Int32) : Nat → Int32 := upd (upd (upd (upd (upd (upd (upd f 5 (nI 1)) 6 (nI 0)) 7 (nI 0)) 8 (nI 0)) 9 (nI 0)) 10 (nI 0)) 11 (nI 0)
set_option maxHeartbeats 4000000 in
set_option maxRecDepth 100000 in
theorem P_X0_clear_2 {f w1 w2 w3 w4 w5 : Nat → Int32} {h : Nat} (hm : MinS G T R h)  : ∀ k, k ≤ 12 → xV G Y_X0_clear T (xD (none) T R L (pm I h (clrF f, zr w1 12, zr w2 12, zr w3 12, zr w4 12, w5))) 2 [some (.ref h), some (.int (nI k))] [] T R L (pm I h (f, zr w1 k, zr w2 k, zr w3 k, zr w4 k, w5)) := by
  obtain ⟨m0, r0, r1, r2, r3, r4, s1, s2, s3, s4, s5⟩ := id hm
  refine xloop 12 (fun k hk ih => ?_)
  refine xV_iload_n e_X0_clear_2 rfl ?_
  refine xV_bipush (v := (nI 12)) e_X0_clear_3 (by decide) ?_
  refine xV_icmp_geN e_X0_clear_5 (by omega) (by omega) (fun h5 => ?_) (fun h5 => ?_)
  · obtain rfl : k = 12 := by omega
    refine xV_aload_n e_X0_clear_19 rfl ?_
    refine xV_iconst (v := (nI 1)) e_X0_clear_20 (by decide) ?_
    refine xV_putF e_X0_clear_21 p_X0_27 (by assumption) ?_
    refine xV_aload_n e_X0_clear_24 rfl ?_
    refine xV_iconst (v := (nI 0)) e_X0_clear_25 (by decide) ?_
    refine xV_putF e_X0_clear_26 p_X0_35 (by assumption) ?_
    refine xV_aload_n e_X0_clear_29 rfl ?_
    refine xV_iconst (v := (nI 0)) e_X0_clear_30 (by decide) ?_
    refine xV_putF e_X0_clear_31 p_X0_38 (by assumption) ?_
    refine xV_aload_n e_X0_clear_34 rfl ?_
    refine xV_iconst (v := (nI 0)) e_X0_clear_35 (by decide) ?_
    refine xV_putF e_X0_clear_36 p_X0_41 (by assumption) ?_
    refine xV_aload_n e_X0_clear_39 rfl ?_
    refine xV_iconst (v := (nI 0)) e_X0_clear_40 (by decide) ?_
    refine xV_putF e_X0_clear_41 p_X0_44 (by assumption) ?_
    refine xV_aload_n e_X0_clear_44 rfl ?_
    refine xV_iconst (v := (nI 0)) e_X0_clear_45 (by decide) ?_
    refine xV_putF e_X0_clear_46 p_X0_47 (by assumption) ?_
    refine xV_aload_n e_X0_clear_49 rfl ?_
    refine xV_iconst (v := (nI 0)) e_X0_clear_50 (by decide) ?_
    refine xV_putF e_X0_clear_51 p_X0_50 (by assumption) ?_
    exact xV_return e_X0_clear_54 rfl rfl ⟨rfl, rfl, rfl, rfl⟩
  · refine xV_aload_n e_X0_clear_8 rfl ?_
    refine xV_iload_n e_X0_clear_9 rfl ?_
    refine xV_cV1v e_X0_clear_10 c_X0_31 (by assumption) (C_X0_empty hm (by omega)) (Nat.le_of_ble_eq_true rfl) ⟨(Nat.le_of_ble_eq_true rfl), (Nat.le_of_ble_eq_true rfl)⟩ (xle_r _) (xle_r _) ?_
    refine xV_iincN e_X0_clear_13 rfl rfl ?_
    refine xV_goto e_X0_clear_16 ?_
    have q := ih (by omega)
    rw [← zr_s w1 k, ← zr_s w2 k, ← zr_s w3 k, ← zr_s w4 k] at q
    exact q
set_option maxHeartbeats 4000000 in
set_option maxRecDepth 100000 in
theorem C_X0_clear {f w1 w2 w3 w4 w5 : Nat → Int32} {h : Nat} (hm : MinS G T R h)  : xCon G Y_X0_clear [.ref h] T R L (pm I h (f, w1, w2, w3, w4, w5)) (xD (none) T R L (pm I h (clrF f, zr w1 12, zr w2 12, zr w3 12, zr w4 12, w5))) := by
  obtain ⟨m0, r0, r1, r2, r3, r4, s1, s2, s3, s4, s5⟩ := id hm
  refine xCon.mk (xl := [some (.ref h), none]) (by decide +kernel) (xle_r _) rfl (Nat.le_of_ble_eq_true rfl) rfl ?_
  refine xV_iconst (v := (nI 0)) e_X0_clear_0 (by decide) ?_
  refine xV_istore_n e_X0_clear_1 (Nat.le_of_ble_eq_true rfl) rfl ?_
  have q := P_X0_clear_2 (L := L) (I := I) (f := f) (w1 := w1) (w2 := w2) (w3 := w3) (w4 := w4) (w5 := w5) hm 0 (Nat.zero_le _)
  rw [zr_0, zr_0, zr_0, zr_0] at q
  exact q
set_option maxHeartbeats 4000000 in
set_option maxRecDepth 100000 in
theorem C_X0_addMonk {f w1 w2 w3 w4 w5 : Nat → Int32} {h : Nat} (hm : MinS G T R h) {mo : Nat} (hmo : f 6 = nI mo) (hm4 : mo < 4) {c s : Int32} : xCon G Y_X0_addMonk [.ref h, .int c, .int s] T R L (pm I h (f, w1, w2, w3, w4, w5)) (xD (none) T R L (pm I h (upd (upd f 7 (f 7 ||| (s <<< (nI mo &&& 31)))) 6 (nI (mo + 1)), w1, w2, w3, w4, upd w5 mo c))) := by
  obtain ⟨m0, r0, r1, r2, r3, r4, s1, s2, s3, s4, s5⟩ := id hm
  refine xCon.mk (xl := [some (.ref h), some (.int c), some (.int s)]) (by decide +kernel) (xle_r _) rfl (Nat.le_of_ble_eq_true rfl) rfl ?_
  refine xV_aload_n e_X0_addMonk_0 rfl ?_
  refine xV_getR e_X0_addMonk_1 f_X0_24 (by assumption) (by assumption) ?_
  refine xV_aload_n e_X0_addMonk_4 rfl ?_
  refine xV_getF e_X0_addMonk_5 f_X0_35 (by assumption) ?_
  rw [hmo]
  refine xV_iload_n e_X0_addMonk_8 rfl ?_
  refine xV_cS3v e_X0_addMonk_9 c_X0_71 (C_X2_put5 s5 (by omega) (by omega)) (Nat.le_of_ble_eq_true rfl) ⟨(Nat.le_of_ble_eq_true rfl), (Nat.le_of_ble_eq_true rfl)⟩ (xle_r _) (xle_r _) ?_
  refine xV_aload_n e_X0_addMonk_12 rfl ?_
  refine xV_dup e_X0_addMonk_13 rfl ?_
  refine xV_getF e_X0_addMonk_14 f_X0_38 (by assumption) ?_
  refine xV_iload_n e_X0_addMonk_17 rfl ?_
  refine xV_aload_n e_X0_addMonk_18 rfl ?_
  refine xV_getF e_X0_addMonk_19 f_X0_35 (by assumption) ?_
  rw [hmo]
  refine xV_ishl e_X0_addMonk_22 ?_
  refine xV_ior e_X0_addMonk_23 ?_
  refine xV_putF e_X0_addMonk_24 p_X0_38 (by assumption) ?_
  refine xV_aload_n e_X0_addMonk_27 rfl ?_
  refine xV_dup e_X0_addMonk_28 rfl ?_
  refine xV_getF e_X0_addMonk_29 f_X0_35 (by assumption) ?_
  refine xV_iconst (v := (nI 1)) e_X0_addMonk_32 (by decide) ?_
  rw [show upd f 7 (f 7 ||| (s <<< (nI mo &&& 31))) 6 = nI mo from hmo]
  refine xV_iaddN e_X0_addMonk_33 ?_
  refine xV_putF e_X0_addMonk_34 p_X0_35 (by assumption) ?_
  exact xV_return e_X0_addMonk_37 rfl rfl ⟨rfl, rfl, rfl, rfl⟩
theorem cpy_in {f g : Nat → Int32} {n k : Nat} (h : k < n) (hn : n < 2 ^ 31) : va_cpy f g (nI 0).toNatClampNeg (nI 0).toNatClampNeg (nI n).toNatClampNeg k = f k := by
  rw [nI_clamp (by decide), nI_clamp hn]
  simp [va_cpy, h]
theorem xV_acopy1 {Y : xY} {Tb : xT} {o : xO} {pc pc' idx h h2 n : Nat} {xl : List (Option Value)} {st : List Value} {f w1 w2 w3 w4 w5 : Nat → Int32} (hd : decode Y.2.1 pc = .ok (.invokestatic idx, 3) ∧ pc + 3 = pc') (hw : (Cond.methodLink Y.1.cls idx arraycopyName ∈ xW ∧ Cond.static arraycopyName ∈ xW ∧ Cond.initialized "java/lang/System" ∈ xW) ∧ Cond.native arraycopyName ∈ xW) (hs0 : xSh G T (h2 + 1) = (4, n)) (hs1 : xSh G T (h + 1) = (4, n)) (hn : n < 2 ^ 31) (hx : h2 + 6 ≤ h ∨ h + 6 ≤ h2)
    (hfr : 1 ≤ Y.2.2.2.2.1) (hlo : (st.map fun v => v.category).sum + (nativeFrameWords "java/lang/System" "arraycopy" 5 + 11) ≤ Y.2.2.2.2.2) (k : xV G Y Tb o pc' xl st T R L (pm I h (f, I (h2 + 1), w2, w3, w4, w5))) : xV G Y Tb o pc xl (.int (nI n) :: .int (nI 0) :: .ref (h + 1) :: .int (nI 0) :: .ref (h2 + 1) :: st) T R L (pm I h (f, w1, w2, w3, w4, w5)) := by
  have z : (nI 0).toNatClampNeg = 0 := nI_clamp (by decide)
  have zn : (nI n).toNatClampNeg = n := nI_clamp hn
  refine xV_acopy hd hw.1 hw.2 hs0 hs1 (nI_pos (by decide)) (nI_pos (by decide)) (nI_pos hn) (by rw [z, zn]; omega) (by rw [z, zn]; omega) hfr hlo ?_
  rw [pm_va1]
  refine xV_congI (fun a q hv => ?_) k
  refine pm_cases (h := h) (fun a => xvl G T a q → pm I h (f, va_cpy (pm I h (f, w1, w2, w3, w4, w5) (h2 + 1)) (pm I h (f, w1, w2, w3, w4, w5) (h + 1)) (nI 0).toNatClampNeg (nI 0).toNatClampNeg (nI n).toNatClampNeg, w2, w3, w4, w5) a q = pm I h (f, I (h2 + 1), w2, w3, w4, w5) a q) ?_ ?_ ?_ ?_ ?_ ?_ (fun ha _ => by rw [pm_o ha, pm_o ha]) hv
  · intro _; rw [pm_0, pm_0]
  · intro hv
    refine Eq.trans (congrFun pm_1 q) (Eq.trans ?_ (congrFun pm_1 q).symm)
    show va_cpy (pm I h (f, w1, w2, w3, w4, w5) (h2 + 1)) (pm I h (f, w1, w2, w3, w4, w5) (h + 1)) (nI 0).toNatClampNeg (nI 0).toNatClampNeg (nI n).toNatClampNeg q = I (h2 + 1) q
    rw [pm_o (a := h2 + 1) (by omega)]
    refine cpy_in ?_ hn
    unfold xvl at hv
    rw [hs1] at hv
    simpa using hv
  · intro _; rw [pm_2, pm_2]
  · intro _; rw [pm_3, pm_3]
  · intro _; rw [pm_4, pm_4]
  · intro _; rw [pm_5, pm_5]
theorem xV_acopy2 {Y : xY} {Tb : xT} {o : xO} {pc pc' idx h h2 n : Nat} {xl : List (Option Value)} {st : List Value} {f w1 w2 w3 w4 w5 : Nat → Int32} (hd : decode Y.2.1 pc = .ok (.invokestatic idx, 3) ∧ pc + 3 = pc') (hw : (Cond.methodLink Y.1.cls idx arraycopyName ∈ xW ∧ Cond.static arraycopyName ∈ xW ∧ Cond.initialized "java/lang/System" ∈ xW) ∧ Cond.native arraycopyName ∈ xW) (hs0 : xSh G T (h2 + 2) = (4, n)) (hs1 : xSh G T (h + 2) = (4, n)) (hn : n < 2 ^ 31) (hx : h2 + 6 ≤ h ∨ h + 6 ≤ h2)
    (hfr : 1 ≤ Y.2.2.2.2.1) (hlo : (st.map fun v => v.category).sum + (nativeFrameWords "java/lang/System" "arraycopy" 5 + 11) ≤ Y.2.2.2.2.2) (k : xV G Y Tb o pc' xl st T R L (pm I h (f, w1, I (h2 + 2), w3, w4, w5))) : xV G Y Tb o pc xl (.int (nI n) :: .int (nI 0) :: .ref (h + 2) :: .int (nI 0) :: .ref (h2 + 2) :: st) T R L (pm I h (f, w1, w2, w3, w4, w5)) := by
  have z : (nI 0).toNatClampNeg = 0 := nI_clamp (by decide)
  have zn : (nI n).toNatClampNeg = n := nI_clamp hn
  refine xV_acopy hd hw.1 hw.2 hs0 hs1 (nI_pos (by decide)) (nI_pos (by decide)) (nI_pos hn) (by rw [z, zn]; omega) (by rw [z, zn]; omega) hfr hlo ?_
  rw [pm_va2]
  refine xV_congI (fun a q hv => ?_) k
  refine pm_cases (h := h) (fun a => xvl G T a q → pm I h (f, w1, va_cpy (pm I h (f, w1, w2, w3, w4, w5) (h2 + 2)) (pm I h (f, w1, w2, w3, w4, w5) (h + 2)) (nI 0).toNatClampNeg (nI 0).toNatClampNeg (nI n).toNatClampNeg, w3, w4, w5) a q = pm I h (f, w1, I (h2 + 2), w3, w4, w5) a q) ?_ ?_ ?_ ?_ ?_ ?_ (fun ha _ => by rw [pm_o ha, pm_o ha]) hv
  · intro _; rw [pm_0, pm_0]
  · intro _; rw [pm_1, pm_1]
  · intro hv
    refine Eq.trans (congrFun pm_2 q) (Eq.trans ?_ (congrFun pm_2 q).symm)
    show va_cpy (pm I h (f, w1, w2, w3, w4, w5) (h2 + 2)) (pm I h (f, w1, w2, w3, w4, w5) (h + 2)) (nI 0).toNatClampNeg (nI 0).toNatClampNeg (nI n).toNatClampNeg q = I (h2 + 2) q
    rw [pm_o (a := h2 + 2) (by omega)]
    refine cpy_in ?_ hn
    unfold xvl at hv
    rw [hs1] at hv
    simpa using hv
  · intro _; rw [pm_3, pm_3]
  · intro _; rw [pm_4, pm_4]
  · intro _; rw [pm_5, pm_5]
theorem xV_acopy3 {Y : xY} {Tb : xT} {o : xO} {pc pc' idx h h2 n : Nat} {xl : List (Option Value)} {st : List Value} {f w1 w2 w3 w4 w5 : Nat → Int32} (hd : decode Y.2.1 pc = .ok (.invokestatic idx, 3) ∧ pc + 3 = pc') (hw : (Cond.methodLink Y.1.cls idx arraycopyName ∈ xW ∧ Cond.static arraycopyName ∈ xW ∧ Cond.initialized "java/lang/System" ∈ xW) ∧ Cond.native arraycopyName ∈ xW) (hs0 : xSh G T (h2 + 3) = (4, n)) (hs1 : xSh G T (h + 3) = (4, n)) (hn : n < 2 ^ 31) (hx : h2 + 6 ≤ h ∨ h + 6 ≤ h2)
    (hfr : 1 ≤ Y.2.2.2.2.1) (hlo : (st.map fun v => v.category).sum + (nativeFrameWords "java/lang/System" "arraycopy" 5 + 11) ≤ Y.2.2.2.2.2) (k : xV G Y Tb o pc' xl st T R L (pm I h (f, w1, w2, I (h2 + 3), w4, w5))) : xV G Y Tb o pc xl (.int (nI n) :: .int (nI 0) :: .ref (h + 3) :: .int (nI 0) :: .ref (h2 + 3) :: st) T R L (pm I h (f, w1, w2, w3, w4, w5)) := by
  have z : (nI 0).toNatClampNeg = 0 := nI_clamp (by decide)
  have zn : (nI n).toNatClampNeg = n := nI_clamp hn
  refine xV_acopy hd hw.1 hw.2 hs0 hs1 (nI_pos (by decide)) (nI_pos (by decide)) (nI_pos hn) (by rw [z, zn]; omega) (by rw [z, zn]; omega) hfr hlo ?_
  rw [pm_va3]
  refine xV_congI (fun a q hv => ?_) k
  refine pm_cases (h := h) (fun a => xvl G T a q → pm I h (f, w1, w2, va_cpy (pm I h (f, w1, w2, w3, w4, w5) (h2 + 3)) (pm I h (f, w1, w2, w3, w4, w5) (h + 3)) (nI 0).toNatClampNeg (nI 0).toNatClampNeg (nI n).toNatClampNeg, w4, w5) a q = pm I h (f, w1, w2, I (h2 + 3), w4, w5) a q) ?_ ?_ ?_ ?_ ?_ ?_ (fun ha _ => by rw [pm_o ha, pm_o ha]) hv
  · intro _; rw [pm_0, pm_0]
  · intro _; rw [pm_1, pm_1]
  · intro _; rw [pm_2, pm_2]
  · intro hv
    refine Eq.trans (congrFun pm_3 q) (Eq.trans ?_ (congrFun pm_3 q).symm)
    show va_cpy (pm I h (f, w1, w2, w3, w4, w5) (h2 + 3)) (pm I h (f, w1, w2, w3, w4, w5) (h + 3)) (nI 0).toNatClampNeg (nI 0).toNatClampNeg (nI n).toNatClampNeg q = I (h2 + 3) q
    rw [pm_o (a := h2 + 3) (by omega)]
    refine cpy_in ?_ hn
    unfold xvl at hv
    rw [hs1] at hv
    simpa using hv
  · intro _; rw [pm_4, pm_4]
  · intro _; rw [pm_5, pm_5]
theorem xV_acopy4 {Y : xY} {Tb : xT} {o : xO} {pc pc' idx h h2 n : Nat} {xl : List (Option Value)} {st : List Value} {f w1 w2 w3 w4 w5 : Nat → Int32} (hd : decode Y.2.1 pc = .ok (.invokestatic idx, 3) ∧ pc + 3 = pc') (hw : (Cond.methodLink Y.1.cls idx arraycopyName ∈ xW ∧ Cond.static arraycopyName ∈ xW ∧ Cond.initialized "java/lang/System" ∈ xW) ∧ Cond.native arraycopyName ∈ xW) (hs0 : xSh G T (h2 + 4) = (4, n)) (hs1 : xSh G T (h + 4) = (4, n)) (hn : n < 2 ^ 31) (hx : h2 + 6 ≤ h ∨ h + 6 ≤ h2)
    (hfr : 1 ≤ Y.2.2.2.2.1) (hlo : (st.map fun v => v.category).sum + (nativeFrameWords "java/lang/System" "arraycopy" 5 + 11) ≤ Y.2.2.2.2.2) (k : xV G Y Tb o pc' xl st T R L (pm I h (f, w1, w2, w3, I (h2 + 4), w5))) : xV G Y Tb o pc xl (.int (nI n) :: .int (nI 0) :: .ref (h + 4) :: .int (nI 0) :: .ref (h2 + 4) :: st) T R L (pm I h (f, w1, w2, w3, w4, w5)) := by
  have z : (nI 0).toNatClampNeg = 0 := nI_clamp (by decide)
  have zn : (nI n).toNatClampNeg = n := nI_clamp hn
  refine xV_acopy hd hw.1 hw.2 hs0 hs1 (nI_pos (by decide)) (nI_pos (by decide)) (nI_pos hn) (by rw [z, zn]; omega) (by rw [z, zn]; omega) hfr hlo ?_
  rw [pm_va4]
  refine xV_congI (fun a q hv => ?_) k
  refine pm_cases (h := h) (fun a => xvl G T a q → pm I h (f, w1, w2, w3, va_cpy (pm I h (f, w1, w2, w3, w4, w5) (h2 + 4)) (pm I h (f, w1, w2, w3, w4, w5) (h + 4)) (nI 0).toNatClampNeg (nI 0).toNatClampNeg (nI n).toNatClampNeg, w5) a q = pm I h (f, w1, w2, w3, I (h2 + 4), w5) a q) ?_ ?_ ?_ ?_ ?_ ?_ (fun ha _ => by rw [pm_o ha, pm_o ha]) hv
  · intro _; rw [pm_0, pm_0]
  · intro _; rw [pm_1, pm_1]
  · intro _; rw [pm_2, pm_2]
  · intro _; rw [pm_3, pm_3]
  · intro hv
    refine Eq.trans (congrFun pm_4 q) (Eq.trans ?_ (congrFun pm_4 q).symm)
    show va_cpy (pm I h (f, w1, w2, w3, w4, w5) (h2 + 4)) (pm I h (f, w1, w2, w3, w4, w5) (h + 4)) (nI 0).toNatClampNeg (nI 0).toNatClampNeg (nI n).toNatClampNeg q = I (h2 + 4) q
    rw [pm_o (a := h2 + 4) (by omega)]
    refine cpy_in ?_ hn
    unfold xvl at hv
    rw [hs1] at hv
    simpa using hv
  · intro _; rw [pm_5, pm_5]
theorem xV_acopy5 {Y : xY} {Tb : xT} {o : xO} {pc pc' idx h h2 n : Nat} {xl : List (Option Value)} {st : List Value} {f w1 w2 w3 w4 w5 : Nat → Int32} (hd : decode Y.2.1 pc = .ok (.invokestatic idx, 3) ∧ pc + 3 = pc') (hw : (Cond.methodLink Y.1.cls idx arraycopyName ∈ xW ∧ Cond.static arraycopyName ∈ xW ∧ Cond.initialized "java/lang/System" ∈ xW) ∧ Cond.native arraycopyName ∈ xW) (hs0 : xSh G T (h2 + 5) = (4, n)) (hs1 : xSh G T (h + 5) = (4, n)) (hn : n < 2 ^ 31) (hx : h2 + 6 ≤ h ∨ h + 6 ≤ h2)
    (hfr : 1 ≤ Y.2.2.2.2.1) (hlo : (st.map fun v => v.category).sum + (nativeFrameWords "java/lang/System" "arraycopy" 5 + 11) ≤ Y.2.2.2.2.2) (k : xV G Y Tb o pc' xl st T R L (pm I h (f, w1, w2, w3, w4, I (h2 + 5)))) : xV G Y Tb o pc xl (.int (nI n) :: .int (nI 0) :: .ref (h + 5) :: .int (nI 0) :: .ref (h2 + 5) :: st) T R L (pm I h (f, w1, w2, w3, w4, w5)) := by
  have z : (nI 0).toNatClampNeg = 0 := nI_clamp (by decide)
  have zn : (nI n).toNatClampNeg = n := nI_clamp hn
  refine xV_acopy hd hw.1 hw.2 hs0 hs1 (nI_pos (by decide)) (nI_pos (by decide)) (nI_pos hn) (by rw [z, zn]; omega) (by rw [z, zn]; omega) hfr hlo ?_
  rw [pm_va5]
  refine xV_congI (fun a q hv => ?_) k
  refine pm_cases (h := h) (fun a => xvl G T a q → pm I h (f, w1, w2, w3, w4, va_cpy (pm I h (f, w1, w2, w3, w4, w5) (h2 + 5)) (pm I h (f, w1, w2, w3, w4, w5) (h + 5)) (nI 0).toNatClampNeg (nI 0).toNatClampNeg (nI n).toNatClampNeg) a q = pm I h (f, w1, w2, w3, w4, I (h2 + 5)) a q) ?_ ?_ ?_ ?_ ?_ ?_ (fun ha _ => by rw [pm_o ha, pm_o ha]) hv
  · intro _; rw [pm_0, pm_0]
  · intro _; rw [pm_1, pm_1]
  · intro _; rw [pm_2, pm_2]
  · intro _; rw [pm_3, pm_3]
  · intro _; rw [pm_4, pm_4]
  · intro hv
    refine Eq.trans (congrFun pm_5 q) (Eq.trans ?_ (congrFun pm_5 q).symm)
    show va_cpy (pm I h (f, w1, w2, w3, w4, w5) (h2 + 5)) (pm I h (f, w1, w2, w3, w4, w5) (h + 5)) (nI 0).toNatClampNeg (nI 0).toNatClampNeg (nI n).toNatClampNeg q = I (h2 + 5) q
    rw [pm_o (a := h2 + 5) (by omega)]
    refine cpy_in ?_ hn
    unfold xvl at hv
    rw [hs1] at hv
    simpa using hv

set_option maxHeartbeats 4000000 in
set_option maxRecDepth 100000 in
theorem C_X0_take0 {f w1 w2 w3 w4 w5 : Nat → Int32} {h : Nat} {h2 : Nat} (hm : MinS G T R h) (hm2 : MinS G T R h2) (hx : h2 + 6 ≤ h ∨ h + 6 ≤ h2) : xCon G Y_X0_take [.ref h, .ref h2] T R L (pm I h (f, w1, w2, w3, w4, w5)) (xD (none) T R L (pm I h (mS I h2))) := by
  obtain ⟨m0, r0, r1, r2, r3, r4, s1, s2, s3, s4, s5⟩ := id hm
  obtain ⟨n0, q0, q1, q2, q3, q4, t1, t2, t3, t4, t5⟩ := id hm2
  refine xCon.mk (xl := [some (.ref h), some (.ref h2)]) (by decide +kernel) (xle_r _) rfl (Nat.le_of_ble_eq_true rfl) rfl ?_
  refine xV_aload_n e_X0_take_0 rfl ?_
  refine xV_ifnonnull e_X0_take_1 ?_
  refine xV_aload_n e_X0_take_5 rfl ?_
  refine xV_getR e_X0_take_6 f_X0_9 (by assumption) (by assumption) ?_
  refine xV_iconst (v := (nI 0)) e_X0_take_9 (by decide) ?_
  refine xV_aload_n e_X0_take_10 rfl ?_
  refine xV_getR e_X0_take_11 f_X0_9 (by assumption) (by assumption) ?_
  refine xV_iconst (v := (nI 0)) e_X0_take_14 (by decide) ?_
  refine xV_bipush (v := (nI 12)) e_X0_take_15 (by decide) ?_
  refine xV_acopy1 e_X0_take_17 c_X0_53 t1 s1 (by omega) hx (Nat.le_of_ble_eq_true rfl) (Nat.le_of_ble_eq_true rfl) ?_
  refine xV_aload_n e_X0_take_20 rfl ?_
  refine xV_getR e_X0_take_21 f_X0_15 (by assumption) (by assumption) ?_
  refine xV_iconst (v := (nI 0)) e_X0_take_24 (by decide) ?_
  refine xV_aload_n e_X0_take_25 rfl ?_
  refine xV_getR e_X0_take_26 f_X0_15 (by assumption) (by assumption) ?_
  refine xV_iconst (v := (nI 0)) e_X0_take_29 (by decide) ?_
  refine xV_bipush (v := (nI 12)) e_X0_take_30 (by decide) ?_
  refine xV_acopy2 e_X0_take_32 c_X0_53 t2 s2 (by omega) hx (Nat.le_of_ble_eq_true rfl) (Nat.le_of_ble_eq_true rfl) ?_
  refine xV_aload_n e_X0_take_35 rfl ?_
  refine xV_getR e_X0_take_36 f_X0_18 (by assumption) (by assumption) ?_
  refine xV_iconst (v := (nI 0)) e_X0_take_39 (by decide) ?_
  refine xV_aload_n e_X0_take_40 rfl ?_
  refine xV_getR e_X0_take_41 f_X0_18 (by assumption) (by assumption) ?_
  refine xV_iconst (v := (nI 0)) e_X0_take_44 (by decide) ?_
  refine xV_bipush (v := (nI 12)) e_X0_take_45 (by decide) ?_
  refine xV_acopy3 e_X0_take_47 c_X0_53 t3 s3 (by omega) hx (Nat.le_of_ble_eq_true rfl) (Nat.le_of_ble_eq_true rfl) ?_
  refine xV_aload_n e_X0_take_50 rfl ?_
  refine xV_getR e_X0_take_51 f_X0_21 (by assumption) (by assumption) ?_
  refine xV_iconst (v := (nI 0)) e_X0_take_54 (by decide) ?_
  refine xV_aload_n e_X0_take_55 rfl ?_
  refine xV_getR e_X0_take_56 f_X0_21 (by assumption) (by assumption) ?_
  refine xV_iconst (v := (nI 0)) e_X0_take_59 (by decide) ?_
  refine xV_bipush (v := (nI 12)) e_X0_take_60 (by decide) ?_
  refine xV_acopy4 e_X0_take_62 c_X0_53 t4 s4 (by omega) hx (Nat.le_of_ble_eq_true rfl) (Nat.le_of_ble_eq_true rfl) ?_
  refine xV_aload_n e_X0_take_65 rfl ?_
  refine xV_getR e_X0_take_66 f_X0_24 (by assumption) (by assumption) ?_
  refine xV_iconst (v := (nI 0)) e_X0_take_69 (by decide) ?_
  refine xV_aload_n e_X0_take_70 rfl ?_
  refine xV_getR e_X0_take_71 f_X0_24 (by assumption) (by assumption) ?_
  refine xV_iconst (v := (nI 0)) e_X0_take_74 (by decide) ?_
  refine xV_iconst (v := (nI 4)) e_X0_take_75 (by decide) ?_
  refine xV_acopy5 e_X0_take_76 c_X0_53 t5 s5 (by omega) hx (Nat.le_of_ble_eq_true rfl) (Nat.le_of_ble_eq_true rfl) ?_
  refine xV_aload_n e_X0_take_79 rfl ?_
  refine xV_aload_n e_X0_take_80 rfl ?_
  refine xV_getI e_X0_take_81 f_X0_27 (by assumption) ?_
  rw [pm_o (by omega)]
  refine xV_putF e_X0_take_84 p_X0_27 (by assumption) ?_
  refine xV_aload_n e_X0_take_87 rfl ?_
  refine xV_aload_n e_X0_take_88 rfl ?_
  refine xV_getI e_X0_take_89 f_X0_35 (by assumption) ?_
  rw [pm_o (by omega)]
  refine xV_putF e_X0_take_92 p_X0_35 (by assumption) ?_
  refine xV_aload_n e_X0_take_95 rfl ?_
  refine xV_aload_n e_X0_take_96 rfl ?_
  refine xV_getI e_X0_take_97 f_X0_38 (by assumption) ?_
  rw [pm_o (by omega)]
  refine xV_putF e_X0_take_100 p_X0_38 (by assumption) ?_
  refine xV_aload_n e_X0_take_103 rfl ?_
  refine xV_aload_n e_X0_take_104 rfl ?_
  refine xV_getI e_X0_take_105 f_X0_41 (by assumption) ?_
  rw [pm_o (by omega)]
  refine xV_putF e_X0_take_108 p_X0_41 (by assumption) ?_
  refine xV_aload_n e_X0_take_111 rfl ?_
  refine xV_aload_n e_X0_take_112 rfl ?_
  refine xV_getI e_X0_take_113 f_X0_44 (by assumption) ?_
  rw [pm_o (by omega)]
  refine xV_putF e_X0_take_116 p_X0_44 (by assumption) ?_
  refine xV_aload_n e_X0_take_119 rfl ?_
  refine xV_aload_n e_X0_take_120 rfl ?_
  refine xV_getI e_X0_take_121 f_X0_47 (by assumption) ?_
  rw [pm_o (by omega)]
  refine xV_putF e_X0_take_124 p_X0_47 (by assumption) ?_
  refine xV_aload_n e_X0_take_127 rfl ?_
  refine xV_aload_n e_X0_take_128 rfl ?_
  refine xV_getI e_X0_take_129 f_X0_50 (by assumption) ?_
  rw [pm_o (by omega)]
  refine xV_putF e_X0_take_132 p_X0_50 (by assumption) ?_
  refine xV_congI (I' := pm I h (mS I h2)) (fun a q hv => ?_) ?_
  · refine pm_cases (h := h) (fun a => xvl G T a q → pm I h _ a q = pm I h (mS I h2) a q) ?_ ?_ ?_ ?_ ?_ ?_ (fun ha _ => by rw [pm_o ha, pm_o ha]) hv
    · intro hv
      rw [pm_0, pm_0]
      unfold xvl at hv
      rw [m0] at hv
      have hk : 5 ≤ q ∧ q < 12 := by
        rcases hv with ⟨_, q1, q2⟩ | ⟨q1, _⟩
        · refine ⟨?_, q1⟩
          rcases Nat.lt_or_ge q 5 with z | z
          · have z2 : xfk 0 q = 2 := by
              show (if q < 5 then 2 else 0) = 2
              rw [if_pos z]
            rw [z2] at q2
            cases q2
          · exact z
        · omega
      have e : q = 5 ∨ q = 6 ∨ q = 7 ∨ q = 8 ∨ q = 9 ∨ q = 10 ∨ q = 11 := by omega
      rcases e with rfl | rfl | rfl | rfl | rfl | rfl | rfl <;> rfl
    · intro _; rw [pm_1, pm_1]; rfl
    · intro _; rw [pm_2, pm_2]; rfl
    · intro _; rw [pm_3, pm_3]; rfl
    · intro _; rw [pm_4, pm_4]; rfl
    · intro _; rw [pm_5, pm_5]; rfl
  exact xV_return e_X0_take_135 rfl rfl ⟨rfl, rfl, rfl, rfl⟩
theorem C_X0_take {h h2 : Nat} (hm : MinS G T R h) (hm2 : MinS G T R h2) (hx : h2 + 6 ≤ h ∨ h + 6 ≤ h2) : xCon G Y_X0_take [.ref h, .ref h2] T R L I (xD none T R L (pm I h (mS I h2))) := by
  have q := C_X0_take0 (L := L) (I := I) (f := (mS I h).1) (w1 := (mS I h).2.1) (w2 := (mS I h).2.2.1) (w3 := (mS I h).2.2.2.1) (w4 := (mS I h).2.2.2.2.1) (w5 := (mS I h).2.2.2.2.2) hm hm2 hx
  have e : pm I h ((mS I h).1, (mS I h).2.1, (mS I h).2.2.1, (mS I h).2.2.2.1, (mS I h).2.2.2.2.1, (mS I h).2.2.2.2.2) = I := pm_self
  rwa [e] at q
end XMINE
