/-! THE PLAN OF THE MEMORY; CONSTRUCTORS -/
def tMs : xT := [(0, 0), (4, 12), (4, 12), (4, 12), (4, 12), (4, 4)]
def tXs : xT := [(2, 0), (4, 72), (1, 0)] ++ (tMs ++ tMs ++ tMs) ++ [(4, 8), (6, 14), (6, 2), (4, 6), (4, 6)] ++ (tMs ++ tMs ++ tMs ++ tMs ++ tMs ++ tMs ++ tMs ++ tMs ++ tMs ++ tMs ++ tMs ++ tMs ++ tMs ++ tMs) ++ (tMs ++ tMs)
def tAll : xT := tXs ++ [(3, 0), (4, 72), (4, 4), (4, 58), (4, 58), (4, 4), (4, 812), (4, 116), (5, 2), (4, 6), (4, 6), (4, 58)]
theorem tAll_len : tAll.length = 134 := by decide +kernel
def tG (n : Nat) : Nat × Nat := (tAll[n]?).getD (99, 0)
/-- the first n cells of the plan -/
def TW (n : Nat) : xT := tAll.take n
section TWs
variable {G : xG} {Y : xY} {o : xO} {pc pc' idx n nb no len : Nat} {xl : List (Option Value)} {st : List Value} {R : xR} {L : xL} {I : xI}
theorem TW_len (h : n ≤ 134) : (TW n).length = n := by
  unfold TW
  rw [List.length_take, tAll_len]
  omega
theorem TW_s (h : n < 134) : TW n ++ [tG n] = TW (n + 1) := by
  unfold TW tG
  have hl : n < tAll.length := by rw [tAll_len]; exact h
  rw [List.take_add_one, List.getElem?_eq_getElem hl]
  rfl
theorem TW_sh {a : Nat} (ha : a < n) (hn : n ≤ 134) : xSh G (TW n) (G.2.2.1 + a) = tG a := by
  unfold xSh TW tG
  rw [if_neg (by omega), show G.2.2.1 + a - G.2.2.1 = a by omega, List.getElem?_take_of_lt ha]
theorem TW_le (h : n ≤ no) (hn : no ≤ 134) : xle (TW n) (TW no) := by
  induction no with
  | zero =>
    obtain rfl : n = 0 := by omega
    exact xle_r _
  | succ m ih =>
    by_cases e : n = m + 1
    · subst e; exact xle_r _
    · have q := ih (by omega) (by omega)
      rw [← TW_s (n := m) (by omega)]
      refine ⟨by rw [List.length_append]; exact Nat.le_trans q.1 (by omega), ?_⟩
      have z := q.2
      unfold xZ at z ⊢
      rw [List.map_append, List.sum_append]
      omega
/-- nothing lies there yet -/
def Fr (G : xG) (n : Nat) (R : xR) (L : xL) (I : xI) : Prop := ∀ a k, G.2.2.1 + n ≤ a → R a k = none ∧ L a k = 0 ∧ I a k = 0
theorem tV_newI {v : Int32} (hd : decode Y.2.1 pc = .ok (.newarray .int, 2) ∧ pc + 2 = pc') (hv : v = nI len) (hn : len < 100000) (ht : tG n = (4, len)) (hz : ∀ k, I (G.2.2.1 + n) k = 0) (hnb : nb ≤ n) (hno : n < no) (h134 : no ≤ 134) (ho : o.1 = TW no)
    (k : xV G Y (TW nb) o pc' xl (.ref (G.2.2.1 + n) :: st) (TW (n + 1)) R L I) : xV G Y (TW nb) o pc xl (.int v :: st) (TW n) R L I := by
  have e := TW_s (n := n) (by omega)
  rw [ht] at e
  refine xV_newI hd n_int hv hn (by rw [TW_len (by omega)]) hz (TW_le hnb (by omega)) (by rw [e, ho]; exact TW_le hno h134) ?_
  rw [e]
  exact k
theorem tV_newZ {v : Int32} (hd : decode Y.2.1 pc = .ok (.newarray .boolean, 2) ∧ pc + 2 = pc') (hv : v = nI len) (hn : len < 100000) (ht : tG n = (5, len)) (hz : ∀ k, I (G.2.2.1 + n) k = 0) (hnb : nb ≤ n) (hno : n < no) (h134 : no ≤ 134) (ho : o.1 = TW no)
    (k : xV G Y (TW nb) o pc' xl (.ref (G.2.2.1 + n) :: st) (TW (n + 1)) R L I) : xV G Y (TW nb) o pc xl (.int v :: st) (TW n) R L I := by
  have e := TW_s (n := n) (by omega)
  rw [ht] at e
  refine xV_newZ hd n_boolean hv hn (by rw [TW_len (by omega)]) hz (TW_le hnb (by omega)) (by rw [e, ho]; exact TW_le hno h134) ?_
  rw [e]
  exact k
theorem tV_newQ {v : Int32} (hd : decode Y.2.1 pc = .ok (.anewarray idx, 3) ∧ pc + 3 = pc') (hw : Cond.classLink Y.1.cls idx RX0 ∈ xW) (hv : v = nI len) (hn : len < 100000) (ht : tG n = (6, len)) (hz : ∀ k, R (G.2.2.1 + n) k = none) (hnb : nb ≤ n) (hno : n < no) (h134 : no ≤ 134) (ho : o.1 = TW no)
    (k : xV G Y (TW nb) o pc' xl (.ref (G.2.2.1 + n) :: st) (TW (n + 1)) R L I) : xV G Y (TW nb) o pc xl (.int v :: st) (TW n) R L I := by
  have e := TW_s (n := n) (by omega)
  rw [ht] at e
  refine xV_newQ hd hw hv hn (by rw [TW_len (by omega)]) hz (TW_le hnb (by omega)) (by rw [e, ho]; exact TW_le hno h134) ?_
  rw [e]
  exact k
theorem tV_new {ci : Nat} (hd : decode Y.2.1 pc = .ok (.new idx, 3) ∧ pc + 3 = pc') (hc : xCN Y.1.cls idx ci) (ht : tG n = (ci, 0)) (hz : ∀ k, R (G.2.2.1 + n) k = none ∧ L (G.2.2.1 + n) k = 0 ∧ I (G.2.2.1 + n) k = 0) (hnb : nb ≤ n) (hno : n < no) (h134 : no ≤ 134) (ho : o.1 = TW no)
    (k : xV G Y (TW nb) o pc' xl (.ref (G.2.2.1 + n) :: st) (TW (n + 1)) R L I) : xV G Y (TW nb) o pc xl st (TW n) R L I := by
  have e := TW_s (n := n) (by omega)
  rw [ht] at e
  refine xV_new hd hc (by rw [TW_len (by omega)]) hz (TW_le hnb (by omega)) (by rw [e, ho]; exact TW_le hno h134) ?_
  rw [e]
  exact k
/-- a mine has its place there -/
def blk (n : Nat) : Prop := n + 6 ≤ 134 ∧ tG n = (0, 0) ∧ tG (n + 1) = (4, 12) ∧ tG (n + 2) = (4, 12) ∧ tG (n + 3) = (4, 12) ∧ tG (n + 4) = (4, 12) ∧ tG (n + 5) = (4, 4)
def mR (R : xR) (h : Nat) : xR := va_up R h (fun k => if k < 5 then some (h + 1 + k) else none)
theorem mR_s {h k : Nat} (hk : k < 5) : mR R h h k = some (h + 1 + k) := by unfold mR; rw [va_up_s, if_pos hk]
theorem mR_o {h a : Nat} (ha : a ≠ h) : mR R h a = R a := by unfold mR; rw [va_up_n ha]
theorem mR_eq {h : Nat} (hR : ∀ k, R h k = none) : xsr (xsr (xsr (xsr (xsr R h 0 (h + 1)) h 1 (h + 2)) h 2 (h + 3)) h 3 (h + 4)) h 4 (h + 5) = mR R h := by
  unfold mR xsr
  simp only [va_up_s, va_up_up]
  congr 1
  funext k
  have e : k = 0 ∨ k = 1 ∨ k = 2 ∨ k = 3 ∨ k = 4 ∨ 5 ≤ k := by omega
  rcases e with rfl | rfl | rfl | rfl | rfl | e
  · rfl
  · rfl
  · rfl
  · rfl
  · rfl
  · rw [if_neg (by omega), va_up_n (by omega), va_up_n (by omega), va_up_n (by omega), va_up_n (by omega), va_up_n (by omega), hR]
theorem blk_min (hb : blk n) (hn : n + 6 ≤ no) (h134 : no ≤ 134) (hR : ∀ k, k < 5 → R (G.2.2.1 + n) k = some (G.2.2.1 + n + 1 + k)) : MinS G (TW no) R (G.2.2.1 + n) := by
  obtain ⟨b0, b1, b2, b3, b4, b5, b6⟩ := hb
  have t : ∀ j, j < 6 → xSh G (TW no) (G.2.2.1 + n + j) = tG (n + j) := fun j hj => by rw [Nat.add_assoc]; exact TW_sh (by omega) h134
  refine ⟨?_, hR 0 (by omega), hR 1 (by omega), hR 2 (by omega), hR 3 (by omega), hR 4 (by omega), ?_, ?_, ?_, ?_, ?_⟩
  · have q := t 0 (by omega)
    rw [Nat.add_zero, Nat.add_zero, b1] at q
    rw [q]
  · rw [t 1 (by omega)]; exact b2
  · rw [t 2 (by omega)]; exact b3
  · rw [t 3 (by omega)]; exact b4
  · rw [t 4 (by omega)]; exact b5
  · rw [t 5 (by omega)]; exact b6
set_option maxHeartbeats 4000000 in
set_option maxRecDepth 100000 in
theorem C_X0_init (hb : blk n) (hf : Fr G n R L I) : xCon G Y_X0_init [.ref (G.2.2.1 + n)] (TW (n + 1)) R L I (xD none (TW (n + 6)) (mR R (G.2.2.1 + n)) L (xst I (G.2.2.1 + n) 5 (nI 1))) := by
  obtain ⟨b0, b1, b2, b3, b4, b5, b6⟩ := id hb
  refine xCon.mk (xl := [some (.ref (G.2.2.1 + n))]) (by decide +kernel) (TW_le (by omega) b0) rfl (Nat.le_of_ble_eq_true rfl) rfl ?_
  refine xV_aload_n e_X0_init_0 rfl ?_
  refine xV_objInit e_X0_init_1 c_X0_3 (Nat.le_of_ble_eq_true rfl) (Nat.le_of_ble_eq_true rfl) ?_
  refine xV_aload_n e_X0_init_4 rfl ?_
  refine xV_bipush (v := nI 12) e_X0_init_5 (by decide) ?_
  refine tV_newI (n := n + 1) (no := n + 6) (len := 12) e_X0_init_7 rfl (by decide) b2 (fun k => (hf _ k (by omega)).2.2) (by omega) (by omega) b0 rfl ?_
  refine xV_putRF e_X0_init_9 p_X0_9 (by rw [TW_sh (by omega) (by omega), b1]) rfl rfl rfl rfl ?_
  refine xV_aload_n e_X0_init_12 rfl ?_
  refine xV_bipush (v := nI 12) e_X0_init_13 (by decide) ?_
  refine tV_newI (n := n + 2) (no := n + 6) (len := 12) e_X0_init_15 rfl (by decide) b3 (fun k => (hf _ k (by omega)).2.2) (by omega) (by omega) b0 rfl ?_
  refine xV_putRF e_X0_init_17 p_X0_15 (by rw [TW_sh (by omega) (by omega), b1]) rfl rfl rfl rfl ?_
  refine xV_aload_n e_X0_init_20 rfl ?_
  refine xV_bipush (v := nI 12) e_X0_init_21 (by decide) ?_
  refine tV_newI (n := n + 3) (no := n + 6) (len := 12) e_X0_init_23 rfl (by decide) b4 (fun k => (hf _ k (by omega)).2.2) (by omega) (by omega) b0 rfl ?_
  refine xV_putRF e_X0_init_25 p_X0_18 (by rw [TW_sh (by omega) (by omega), b1]) rfl rfl rfl rfl ?_
  refine xV_aload_n e_X0_init_28 rfl ?_
  refine xV_bipush (v := nI 12) e_X0_init_29 (by decide) ?_
  refine tV_newI (n := n + 4) (no := n + 6) (len := 12) e_X0_init_31 rfl (by decide) b5 (fun k => (hf _ k (by omega)).2.2) (by omega) (by omega) b0 rfl ?_
  refine xV_putRF e_X0_init_33 p_X0_21 (by rw [TW_sh (by omega) (by omega), b1]) rfl rfl rfl rfl ?_
  refine xV_aload_n e_X0_init_36 rfl ?_
  refine xV_iconst (v := nI 4) e_X0_init_37 (by decide) ?_
  refine tV_newI (n := n + 5) (no := n + 6) (len := 4) e_X0_init_38 rfl (by decide) b6 (fun k => (hf _ k (by omega)).2.2) (by omega) (by omega) b0 rfl ?_
  refine xV_putRF e_X0_init_40 p_X0_24 (by rw [TW_sh (by omega) (by omega), b1]) rfl rfl rfl rfl ?_
  refine xV_aload_n e_X0_init_43 rfl ?_
  refine xV_iconst (v := nI 1) e_X0_init_44 (by decide) ?_
  refine xV_putI e_X0_init_45 p_X0_27 (by rw [TW_sh (by omega) (by omega), b1]) ?_
  exact xV_return e_X0_init_48 rfl rfl ⟨rfl, mR_eq (fun k => (hf _ k (by omega)).1), rfl, rfl⟩
theorem xsr_o {a c k v : Nat} (h : c ≠ a) : xsr R a k v c = R c := by unfold xsr; rw [va_up_n h]
theorem xsr_s {a k v : Nat} : xsr R a k v a = va_up (R a) k (some v) := by unfold xsr; rw [va_up_s]
set_option maxHeartbeats 4000000 in
set_option maxRecDepth 100000 in
theorem C_X1_init (ht : tG n = (1, 0)) (hb : blk (n + 1)) (hf : Fr G (n + 1) R L I) : xCon G Y_X1_init [.ref (G.2.2.1 + n)] (TW (n + 1)) R L I (xD none (TW (n + 7)) (xsr (mR R (G.2.2.1 + (n + 1))) (G.2.2.1 + n) 0 (G.2.2.1 + (n + 1))) L (xst I (G.2.2.1 + (n + 1)) 5 (nI 1))) := by
  obtain ⟨b0, b1, b2, b3, b4, b5, b6⟩ := id hb
  refine xCon.mk (xl := [some (.ref (G.2.2.1 + n))]) (by decide +kernel) (TW_le (by omega) b0) rfl (Nat.le_of_ble_eq_true rfl) rfl ?_
  refine xV_aload_n e_X1_init_0 rfl ?_
  refine xV_objInit e_X1_init_1 c_X1_3 (Nat.le_of_ble_eq_true rfl) (Nat.le_of_ble_eq_true rfl) ?_
  refine xV_aload_n e_X1_init_4 rfl ?_
  refine tV_new (n := n + 1) (no := n + 7) e_X1_init_5 n_X1_9 b1 (fun k => hf _ k (by omega)) (by omega) (by omega) b0 rfl ?_
  refine xV_dup e_X1_init_8 rfl ?_
  refine xV_cI0v e_X1_init_9 c_X1_11 (C_X0_init (n := n + 1) hb hf) (Nat.le_of_ble_eq_true rfl) ⟨(Nat.le_of_ble_eq_true rfl), (Nat.le_of_ble_eq_true rfl)⟩ (TW_le (by omega) (by omega)) (TW_le (by omega) b0) ?_
  refine xV_putRF e_X1_init_12 p_X1_12 (by rw [TW_sh (by omega) (by omega), ht]) rfl rfl rfl rfl ?_
  exact xV_return e_X1_init_15 rfl rfl ⟨rfl, rfl, rfl, rfl⟩
def pR (b c r : Nat) (R : xR) : Nat → xR
  | 0 => R
  | k + 1 => xsr (mR (pR b c r R k) (b + (c + 6 * k))) (b + r) k (b + (c + 6 * k))
def iP (b c : Nat) (I : xI) : Nat → xI
  | 0 => I
  | k + 1 => xst (iP b c I k) (b + (c + 6 * k)) 5 (nI 1)
theorem pR_o {b c r k a : Nat} (h1 : a ≠ b + r) (h2 : a < b + c ∨ b + c + 6 * k ≤ a) : pR b c r R k a = R a := by
  induction k with
  | zero => rfl
  | succ k ih => rw [pR, xsr_o h1, mR_o (by omega), ih (by omega)]
theorem pR_row {b c r k : Nat} (h : r < c) : pR b c r R k (b + r) = fun i => if i < k then some (b + (c + 6 * i)) else R (b + r) i := by
  induction k with
  | zero => funext i; rw [if_neg (by omega)]; rfl
  | succ k ih =>
    rw [pR, xsr_s, mR_o (by omega), ih]
    funext i
    by_cases e : i = k
    · subst e
      rw [va_up_s, if_pos (by omega)]
    · rw [va_up_n e]
      by_cases e2 : i < k
      · rw [if_pos e2, if_pos (by omega)]
      · rw [if_neg e2, if_neg (by omega)]
theorem pR_min {b c r k i j : Nat} (h : r < c) (hi : i < k) (hj : j < 5) : pR b c r R k (b + (c + 6 * i)) j = some (b + (c + 6 * i) + 1 + j) := by
  induction k with
  | zero => omega
  | succ k ih =>
    rw [pR, xsr_o (by omega)]
    by_cases e : i = k
    · subst e
      rw [mR_s hj]
    · rw [mR_o (by omega), ih (by omega)]
theorem iP_o {b c k a : Nat} (h2 : a < b + c ∨ b + c + 6 * k ≤ a) : iP b c I k a = I a := by
  induction k with
  | zero => rfl
  | succ k ih => rw [iP, xst_o (by omega), ih (by omega)]
theorem Fr.loop {c r k m : Nat} (hf : Fr G c R L I) (hr : r < c) (hm : m = c + 6 * k) : Fr G m (pR G.2.2.1 c r R k) L (iP G.2.2.1 c I k) := by
  intro a j ha
  rw [pR_o (by omega) (by omega), iP_o (by omega)]
  exact hf a j (by omega)
def blkb (n : Nat) : Bool := decide (n + 6 ≤ 134) && (decide (tG n = (0, 0)) && (decide (tG (n + 1) = (4, 12)) && (decide (tG (n + 2) = (4, 12)) && (decide (tG (n + 3) = (4, 12)) && (decide (tG (n + 4) = (4, 12)) && decide (tG (n + 5) = (4, 4)))))))
theorem blk_of (h : blkb n = true) : blk n := by
  simp only [blkb, Bool.and_eq_true, decide_eq_true_eq] at h
  exact h
theorem xblkb : (∀ k, k < 14 → blkb (26 + 6 * k) = true) ∧ (∀ k, k < 2 → blkb (110 + 6 * k) = true) ∧ blkb 3 = true ∧ blkb 9 = true ∧ blkb 15 = true := ⟨by decide +kernel, by decide +kernel, by decide +kernel, by decide +kernel, by decide +kernel⟩
theorem xblk : (∀ k, k < 14 → blk (26 + 6 * k)) ∧ (∀ k, k < 2 → blk (110 + 6 * k)) ∧ blk 3 ∧ blk 9 ∧ blk 15 := ⟨fun k h => blk_of (xblkb.1 k h), fun k h => blk_of (xblkb.2.1 k h), blk_of xblkb.2.2.1, blk_of xblkb.2.2.2.1, blk_of xblkb.2.2.2.2⟩
set_option maxHeartbeats 4000000 in
set_option maxRecDepth 100000 in
theorem P_X2_init_118 (hp : R G.2.2.1 8 = some (G.2.2.1 + 23)) (hf : Fr G 110 R L I) (ho : o.1 = TW 122) (hout : xV G Y_X2_init (TW 1) o 146 [some (.ref G.2.2.1), some (.int (nI 2))] [] (TW 122) (pR G.2.2.1 110 23 R 2) L (iP G.2.2.1 110 I 2)) : ∀ k, k ≤ 2 → xV G Y_X2_init (TW 1) o 118 [some (.ref G.2.2.1), some (.int (nI k))] [] (TW (110 + 6 * k)) (pR G.2.2.1 110 23 R k) L (iP G.2.2.1 110 I k) := by
  refine xloop 2 (fun k hk0 ih => ?_)
  have h0 : (xSh G (TW (110 + 6 * k)) G.2.2.1).1 = 2 := by rw [show xSh G (TW (110 + 6 * k)) G.2.2.1 = tG 0 from TW_sh (a := 0) (by omega) (by omega)]; rfl
  have h1 : pR G.2.2.1 110 23 R k G.2.2.1 8 = some (G.2.2.1 + 23) := by rw [pR_o (by omega) (by omega)]; exact hp
  have h2 : xSh G (TW (110 + 6 * k)) (G.2.2.1 + 23) = (6, 2) := by rw [TW_sh (by omega) (by omega)]; rfl
  refine xV_iload_n e_X2_init_118 rfl ?_
  refine xV_aload_n e_X2_init_119 rfl ?_
  refine xV_getR e_X2_init_120 f_X2_37 h0 h1 ?_
  refine xV_alenQN e_X2_init_123 h2 ?_
  refine xV_icmp_geN e_X2_init_124 (by omega) (by omega) (fun hge => ?_) (fun hlt => ?_)
  · obtain rfl : k = 2 := by omega
    exact hout
  have hb := xblk.2.1 k (by omega)
  refine xV_aload_n e_X2_init_127 rfl ?_
  refine xV_getR e_X2_init_128 f_X2_37 h0 h1 ?_
  refine xV_iload_n e_X2_init_131 rfl ?_
  refine tV_new (n := 110 + 6 * k) (no := 122) e_X2_init_132 n_X2_20 hb.2.1 (fun j => hf.loop (by omega) rfl _ j (by omega)) (by omega) (by omega) (by omega) ho ?_
  refine xV_dup e_X2_init_135 rfl ?_
  refine xV_cI0v e_X2_init_136 c_X2_22 (C_X0_init (n := 110 + 6 * k) hb (hf.loop (by omega) rfl)) (Nat.le_of_ble_eq_true rfl) ⟨(Nat.le_of_ble_eq_true rfl), (Nat.le_of_ble_eq_true rfl)⟩ (TW_le (by omega) (by omega)) (by rw [ho]; exact TW_le (by omega) (by omega)) ?_
  refine xV_aastN (n := 2) e_X2_init_139 (by rw [TW_sh (by omega) (by omega)]; rfl) (by omega) (by omega) (by rw [TW_sh (by omega) (by omega), hb.2.1]) ?_
  refine xV_iincN e_X2_init_140 rfl rfl ?_
  refine xV_goto e_X2_init_143 ?_
  exact ih (by omega)

set_option maxHeartbeats 4000000 in
set_option maxRecDepth 100000 in
theorem P_X2_init_88 (hp : R G.2.2.1 6 = some (G.2.2.1 + 22)) (hf : Fr G 26 R L I) (ho : o.1 = TW 122) (hout : xV G Y_X2_init (TW 1) o 116 [some (.ref G.2.2.1), some (.int (nI 14))] [] (TW 110) (pR G.2.2.1 26 22 R 14) L (iP G.2.2.1 26 I 14)) : ∀ k, k ≤ 14 → xV G Y_X2_init (TW 1) o 88 [some (.ref G.2.2.1), some (.int (nI k))] [] (TW (26 + 6 * k)) (pR G.2.2.1 26 22 R k) L (iP G.2.2.1 26 I k) := by
  refine xloop 14 (fun k hk0 ih => ?_)
  have h0 : (xSh G (TW (26 + 6 * k)) G.2.2.1).1 = 2 := by rw [show xSh G (TW (26 + 6 * k)) G.2.2.1 = tG 0 from TW_sh (a := 0) (by omega) (by omega)]; rfl
  have h1 : pR G.2.2.1 26 22 R k G.2.2.1 6 = some (G.2.2.1 + 22) := by rw [pR_o (by omega) (by omega)]; exact hp
  have h2 : xSh G (TW (26 + 6 * k)) (G.2.2.1 + 22) = (6, 14) := by rw [TW_sh (by omega) (by omega)]; rfl
  refine xV_iload_n e_X2_init_88 rfl ?_
  refine xV_aload_n e_X2_init_89 rfl ?_
  refine xV_getR e_X2_init_90 f_X2_33 h0 h1 ?_
  refine xV_alenQN e_X2_init_93 h2 ?_
  refine xV_icmp_geN e_X2_init_94 (by omega) (by omega) (fun hge => ?_) (fun hlt => ?_)
  · obtain rfl : k = 14 := by omega
    exact hout
  have hb := xblk.1 k (by omega)
  refine xV_aload_n e_X2_init_97 rfl ?_
  refine xV_getR e_X2_init_98 f_X2_33 h0 h1 ?_
  refine xV_iload_n e_X2_init_101 rfl ?_
  refine tV_new (n := 26 + 6 * k) (no := 122) e_X2_init_102 n_X2_20 hb.2.1 (fun j => hf.loop (by omega) rfl _ j (by omega)) (by omega) (by omega) (by omega) ho ?_
  refine xV_dup e_X2_init_105 rfl ?_
  refine xV_cI0v e_X2_init_106 c_X2_22 (C_X0_init (n := 26 + 6 * k) hb (hf.loop (by omega) rfl)) (Nat.le_of_ble_eq_true rfl) ⟨(Nat.le_of_ble_eq_true rfl), (Nat.le_of_ble_eq_true rfl)⟩ (TW_le (by omega) (by omega)) (by rw [ho]; exact TW_le (by omega) (by omega)) ?_
  refine xV_aastN (n := 14) e_X2_init_109 (by rw [TW_sh (by omega) (by omega)]; rfl) (by omega) (by omega) (by rw [TW_sh (by omega) (by omega), hb.2.1]) ?_
  refine xV_iincN e_X2_init_110 rfl rfl ?_
  refine xV_goto e_X2_init_113 ?_
  exact ih (by omega)

def ri0 (b : Nat) (R : xR) : xR := (xsr (xsr (xsr (xsr (xsr (xsr (mR (xsr (mR (xsr (xsr (mR (xsr R b 0 (b + 1)) (b + 3)) (b + 2) 0 (b + 3)) b 2 (b + 2)) (b + 9)) b 3 (b + 9)) (b + 15)) b 4 (b + 15)) b 5 (b + 21)) b 6 (b + 22)) b 8 (b + 23)) b 10 (b + 24)) b 11 (b + 25))
def ii0 (b : Nat) (I : xI) : xI := (xst (xst (xst I (b + 3) 5 (nI 1)) (b + 9) 5 (nI 1)) (b + 15) 5 (nI 1))
def xfl : List (Nat × Nat) := [(0, 1), (2, 2), (3, 9), (4, 15), (5, 21), (6, 22), (8, 23), (10, 24), (11, 25)]
theorem ri0_x {b : Nat} (i v : Nat) (h : (i, v) ∈ xfl) : ri0 b R b i = some (b + v) := by
  simp only [xfl, List.mem_cons, Prod.mk.injEq, List.mem_nil_iff, or_false] at h
  unfold ri0
  simp only [xsr_s]
  rcases h with ⟨rfl, rfl⟩ | ⟨rfl, rfl⟩ | ⟨rfl, rfl⟩ | ⟨rfl, rfl⟩ | ⟨rfl, rfl⟩ | ⟨rfl, rfl⟩ | ⟨rfl, rfl⟩ | ⟨rfl, rfl⟩ | ⟨rfl, rfl⟩ <;> simp [va_up, xsr, mR]
theorem Fr.i0 (hf : Fr G 0 R L I) : Fr G 26 (ri0 G.2.2.1 R) L (ii0 G.2.2.1 I) := by
  intro a k ha
  unfold ri0 ii0
  refine ⟨by rw [xsr_o (by omega), xsr_o (by omega), xsr_o (by omega), xsr_o (by omega), xsr_o (by omega), xsr_o (by omega), mR_o (by omega), xsr_o (by omega), mR_o (by omega), xsr_o (by omega), xsr_o (by omega), mR_o (by omega), xsr_o (by omega)]; exact (hf _ k (by omega)).1, (hf _ k (by omega)).2.1, by rw [xst_o (by omega), xst_o (by omega), xst_o (by omega)]; exact (hf _ k (by omega)).2.2⟩
def riX (b : Nat) (R : xR) : xR := pR b 110 23 (pR b 26 22 (ri0 b R) 14) 2
def iiX (b : Nat) (I : xI) : xI := iP b 110 (iP b 26 (ii0 b I) 14) 2
set_option maxHeartbeats 4000000 in
set_option maxRecDepth 100000 in
theorem C_X2_init (hf : Fr G 0 R L I) : xCon G Y_X2_init [.ref G.2.2.1] (TW 1) R L I (xD none (TW 122) (riX G.2.2.1 R) L (iiX G.2.2.1 I)) := by
  refine xCon.mk (xl := [some (.ref G.2.2.1), none]) (by decide +kernel) (TW_le (by omega) (by omega)) rfl (Nat.le_of_ble_eq_true rfl) rfl ?_
  refine xV_aload_n e_X2_init_0 rfl ?_
  refine xV_objInit e_X2_init_1 c_X2_1 (Nat.le_of_ble_eq_true rfl) (Nat.le_of_ble_eq_true rfl) ?_
  refine xV_aload_n e_X2_init_4 rfl ?_
  refine xV_bipush (v := nI 72) e_X2_init_5 (by decide) ?_
  refine tV_newI (n := 1) (no := 122) (len := 72) e_X2_init_7 rfl (by decide) rfl (fun k => by exact (hf _ k (by omega)).2.2) (by omega) (by omega) (by omega) rfl ?_
  refine xV_putRF e_X2_init_9 p_X2_9 (by rw [show xSh G (TW 2) G.2.2.1 = tG 0 from TW_sh (a := 0) (by omega) (by omega)]; rfl) rfl rfl rfl rfl ?_
  refine xV_aload_n e_X2_init_12 rfl ?_
  refine tV_new (n := 2) (no := 122) e_X2_init_13 n_X2_13 rfl (fun k => ⟨by rw [xsr_o (by omega)]; exact (hf _ k (by omega)).1, (hf _ k (by omega)).2.1, by exact (hf _ k (by omega)).2.2⟩) (by omega) (by omega) (by omega) rfl ?_
  refine xV_dup e_X2_init_16 rfl ?_
  refine xV_cI0v e_X2_init_17 c_X2_15 (C_X1_init (n := 2) rfl xblk.2.2.1 (fun a k ha => ⟨by rw [xsr_o (by omega)]; exact (hf _ k (by omega)).1, (hf _ k (by omega)).2.1, by exact (hf _ k (by omega)).2.2⟩)) (Nat.le_of_ble_eq_true rfl) ⟨(Nat.le_of_ble_eq_true rfl), (Nat.le_of_ble_eq_true rfl)⟩ (TW_le (by omega) (by omega)) (TW_le (by omega) (by omega)) ?_
  refine xV_putRF e_X2_init_20 p_X2_16 (by rw [show xSh G (TW 9) G.2.2.1 = tG 0 from TW_sh (a := 0) (by omega) (by omega)]; rfl) rfl rfl rfl rfl ?_
  refine xV_aload_n e_X2_init_23 rfl ?_
  refine tV_new (n := 9) (no := 122) e_X2_init_24 n_X2_20 rfl (fun k => ⟨by rw [xsr_o (by omega), xsr_o (by omega), mR_o (by omega), xsr_o (by omega)]; exact (hf _ k (by omega)).1, (hf _ k (by omega)).2.1, by rw [xst_o (by omega)]; exact (hf _ k (by omega)).2.2⟩) (by omega) (by omega) (by omega) rfl ?_
  refine xV_dup e_X2_init_27 rfl ?_
  refine xV_cI0v e_X2_init_28 c_X2_22 (C_X0_init (n := 9) xblk.2.2.2.1 (fun a k ha => ⟨by rw [xsr_o (by omega), xsr_o (by omega), mR_o (by omega), xsr_o (by omega)]; exact (hf _ k (by omega)).1, (hf _ k (by omega)).2.1, by rw [xst_o (by omega)]; exact (hf _ k (by omega)).2.2⟩)) (Nat.le_of_ble_eq_true rfl) ⟨(Nat.le_of_ble_eq_true rfl), (Nat.le_of_ble_eq_true rfl)⟩ (TW_le (by omega) (by omega)) (TW_le (by omega) (by omega)) ?_
  refine xV_putRF e_X2_init_31 p_X2_23 (by rw [show xSh G (TW 15) G.2.2.1 = tG 0 from TW_sh (a := 0) (by omega) (by omega)]; rfl) rfl rfl rfl rfl ?_
  refine xV_aload_n e_X2_init_34 rfl ?_
  refine tV_new (n := 15) (no := 122) e_X2_init_35 n_X2_20 rfl (fun k => ⟨by rw [xsr_o (by omega), mR_o (by omega), xsr_o (by omega), xsr_o (by omega), mR_o (by omega), xsr_o (by omega)]; exact (hf _ k (by omega)).1, (hf _ k (by omega)).2.1, by rw [xst_o (by omega), xst_o (by omega)]; exact (hf _ k (by omega)).2.2⟩) (by omega) (by omega) (by omega) rfl ?_
  refine xV_dup e_X2_init_38 rfl ?_
  refine xV_cI0v e_X2_init_39 c_X2_22 (C_X0_init (n := 15) xblk.2.2.2.2 (fun a k ha => ⟨by rw [xsr_o (by omega), mR_o (by omega), xsr_o (by omega), xsr_o (by omega), mR_o (by omega), xsr_o (by omega)]; exact (hf _ k (by omega)).1, (hf _ k (by omega)).2.1, by rw [xst_o (by omega), xst_o (by omega)]; exact (hf _ k (by omega)).2.2⟩)) (Nat.le_of_ble_eq_true rfl) ⟨(Nat.le_of_ble_eq_true rfl), (Nat.le_of_ble_eq_true rfl)⟩ (TW_le (by omega) (by omega)) (TW_le (by omega) (by omega)) ?_
  refine xV_putRF e_X2_init_42 p_X2_27 (by rw [show xSh G (TW 21) G.2.2.1 = tG 0 from TW_sh (a := 0) (by omega) (by omega)]; rfl) rfl rfl rfl rfl ?_
  refine xV_aload_n e_X2_init_45 rfl ?_
  refine xV_bipush (v := nI 8) e_X2_init_46 (by decide) ?_
  refine tV_newI (n := 21) (no := 122) (len := 8) e_X2_init_48 rfl (by decide) rfl (fun k => by rw [xst_o (by omega), xst_o (by omega), xst_o (by omega)]; exact (hf _ k (by omega)).2.2) (by omega) (by omega) (by omega) rfl ?_
  refine xV_putRF e_X2_init_50 p_X2_30 (by rw [show xSh G (TW 22) G.2.2.1 = tG 0 from TW_sh (a := 0) (by omega) (by omega)]; rfl) rfl rfl rfl rfl ?_
  refine xV_aload_n e_X2_init_53 rfl ?_
  refine xV_bipush (v := nI 14) e_X2_init_54 (by decide) ?_
  refine tV_newQ (n := 22) (no := 122) (len := 14) e_X2_init_56 n_X2_20q rfl (by decide) rfl (fun k => by rw [xsr_o (by omega), xsr_o (by omega), mR_o (by omega), xsr_o (by omega), mR_o (by omega), xsr_o (by omega), xsr_o (by omega), mR_o (by omega), xsr_o (by omega)]; exact (hf _ k (by omega)).1) (by omega) (by omega) (by omega) rfl ?_
  refine xV_putRF e_X2_init_59 p_X2_33 (by rw [show xSh G (TW 23) G.2.2.1 = tG 0 from TW_sh (a := 0) (by omega) (by omega)]; rfl) rfl rfl rfl rfl ?_
  refine xV_aload_n e_X2_init_62 rfl ?_
  refine xV_iconst (v := nI 2) e_X2_init_63 (by decide) ?_
  refine tV_newQ (n := 23) (no := 122) (len := 2) e_X2_init_64 n_X2_20q rfl (by decide) rfl (fun k => by rw [xsr_o (by omega), xsr_o (by omega), xsr_o (by omega), mR_o (by omega), xsr_o (by omega), mR_o (by omega), xsr_o (by omega), xsr_o (by omega), mR_o (by omega), xsr_o (by omega)]; exact (hf _ k (by omega)).1) (by omega) (by omega) (by omega) rfl ?_
  refine xV_putRF e_X2_init_67 p_X2_37 (by rw [show xSh G (TW 24) G.2.2.1 = tG 0 from TW_sh (a := 0) (by omega) (by omega)]; rfl) rfl rfl rfl rfl ?_
  refine xV_aload_n e_X2_init_70 rfl ?_
  refine xV_bipush (v := nI 6) e_X2_init_71 (by decide) ?_
  refine tV_newI (n := 24) (no := 122) (len := 6) e_X2_init_73 rfl (by decide) rfl (fun k => by rw [xst_o (by omega), xst_o (by omega), xst_o (by omega)]; exact (hf _ k (by omega)).2.2) (by omega) (by omega) (by omega) rfl ?_
  refine xV_putRF e_X2_init_75 p_X2_40 (by rw [show xSh G (TW 25) G.2.2.1 = tG 0 from TW_sh (a := 0) (by omega) (by omega)]; rfl) rfl rfl rfl rfl ?_
  refine xV_aload_n e_X2_init_78 rfl ?_
  refine xV_bipush (v := nI 6) e_X2_init_79 (by decide) ?_
  refine tV_newI (n := 25) (no := 122) (len := 6) e_X2_init_81 rfl (by decide) rfl (fun k => by rw [xst_o (by omega), xst_o (by omega), xst_o (by omega)]; exact (hf _ k (by omega)).2.2) (by omega) (by omega) (by omega) rfl ?_
  refine xV_putRF e_X2_init_83 p_X2_43 (by rw [show xSh G (TW 26) G.2.2.1 = tG 0 from TW_sh (a := 0) (by omega) (by omega)]; rfl) rfl rfl rfl rfl ?_
  refine xV_iconst (v := nI 0) e_X2_init_86 (by decide) ?_
  refine xV_istore_n e_X2_init_87 (Nat.le_of_ble_eq_true rfl) rfl ?_
  have hf2 : Fr G 26 (ri0 G.2.2.1 R) L (ii0 G.2.2.1 I) := Fr.i0 hf
  refine P_X2_init_88 (R := ri0 G.2.2.1 R) (I := ii0 G.2.2.1 I) (ri0_x 6 22 (by decide)) hf2 rfl ?_ 0 (Nat.zero_le _)
  refine xV_iconst (v := nI 0) e_X2_init_116 (by decide) ?_
  refine xV_istore_n e_X2_init_117 (Nat.le_of_ble_eq_true rfl) rfl ?_
  refine P_X2_init_118 (R := pR G.2.2.1 26 22 (ri0 G.2.2.1 R) 14) (I := iP G.2.2.1 26 (ii0 G.2.2.1 I) 14) (by rw [pR_o (by omega) (by omega)]; exact ri0_x 8 23 (by decide)) (hf2.loop (by omega) rfl) rfl ?_ 0 (Nat.zero_le _)
  exact xV_return e_X2_init_146 rfl rfl ⟨rfl, rfl, rfl, rfl⟩
def ri3 (b : Nat) (R : xR) : xR := (xsr (xsr (xsr (xsr (xsr (xsr (xsr (xsr (xsr (xsr (xsr R (b + 122) 1 (b + 123)) (b + 122) 6 (b + 124)) (b + 122) 7 (b + 125)) (b + 122) 12 (b + 126)) (b + 122) 13 (b + 127)) (b + 122) 15 (b + 128)) (b + 122) 17 (b + 129)) (b + 122) 18 (b + 130)) (b + 122) 20 (b + 131)) (b + 122) 21 (b + 132)) (b + 122) 22 (b + 133))
set_option maxHeartbeats 4000000 in
set_option maxRecDepth 100000 in
theorem C_X3_init (hf : Fr G 122 R L I) : xCon G Y_X3_init [.ref (G.2.2.1 + 122)] (TW 123) R L I (xD none (TW 134) (ri3 G.2.2.1 R) L (xst I (G.2.2.1 + 122) 4 (nI 1))) := by
  refine xCon.mk (xl := [some (.ref (G.2.2.1 + 122))]) (by decide +kernel) (TW_le (by omega) (by omega)) rfl (Nat.le_of_ble_eq_true rfl) rfl ?_
  refine xV_aload_n e_X3_init_0 rfl ?_
  refine xV_objInit e_X3_init_1 c_X3_1 (Nat.le_of_ble_eq_true rfl) (Nat.le_of_ble_eq_true rfl) ?_
  refine xV_aload_n e_X3_init_4 rfl ?_
  refine xV_bipush (v := nI 72) e_X3_init_5 (by decide) ?_
  refine tV_newI (n := 123) (no := 134) (len := 72) e_X3_init_7 rfl (by decide) rfl (fun k => (hf _ k (by omega)).2.2) (by omega) (by omega) (by omega) rfl ?_
  refine xV_putRF e_X3_init_9 p_X3_7 (by rw [TW_sh (by omega) (by omega)]; rfl) rfl rfl rfl rfl ?_
  refine xV_aload_n e_X3_init_12 rfl ?_
  refine xV_iconst (v := nI 1) e_X3_init_13 (by decide) ?_
  refine xV_putI e_X3_init_14 p_X3_13 (by rw [TW_sh (by omega) (by omega)]; rfl) ?_
  refine xV_aload_n e_X3_init_17 rfl ?_
  refine xV_iconst (v := nI 4) e_X3_init_18 (by decide) ?_
  refine tV_newI (n := 124) (no := 134) (len := 4) e_X3_init_19 rfl (by decide) rfl (fun k => by rw [xst_o (by omega)]; exact (hf _ k (by omega)).2.2) (by omega) (by omega) (by omega) rfl ?_
  refine xV_putRF e_X3_init_21 p_X3_17 (by rw [TW_sh (by omega) (by omega)]; rfl) rfl rfl rfl rfl ?_
  refine xV_aload_n e_X3_init_24 rfl ?_
  refine xV_bipush (v := nI 58) e_X3_init_25 (by decide) ?_
  refine tV_newI (n := 125) (no := 134) (len := 58) e_X3_init_27 rfl (by decide) rfl (fun k => by rw [xst_o (by omega)]; exact (hf _ k (by omega)).2.2) (by omega) (by omega) (by omega) rfl ?_
  refine xV_putRF e_X3_init_29 p_X3_20 (by rw [TW_sh (by omega) (by omega)]; rfl) rfl rfl rfl rfl ?_
  refine xV_aload_n e_X3_init_32 rfl ?_
  refine xV_bipush (v := nI 58) e_X3_init_33 (by decide) ?_
  refine tV_newI (n := 126) (no := 134) (len := 58) e_X3_init_35 rfl (by decide) rfl (fun k => by rw [xst_o (by omega)]; exact (hf _ k (by omega)).2.2) (by omega) (by omega) (by omega) rfl ?_
  refine xV_putRF e_X3_init_37 p_X3_23 (by rw [TW_sh (by omega) (by omega)]; rfl) rfl rfl rfl rfl ?_
  refine xV_aload_n e_X3_init_40 rfl ?_
  refine xV_iconst (v := nI 4) e_X3_init_41 (by decide) ?_
  refine tV_newI (n := 127) (no := 134) (len := 4) e_X3_init_42 rfl (by decide) rfl (fun k => by rw [xst_o (by omega)]; exact (hf _ k (by omega)).2.2) (by omega) (by omega) (by omega) rfl ?_
  refine xV_putRF e_X3_init_44 p_X3_26 (by rw [TW_sh (by omega) (by omega)]; rfl) rfl rfl rfl rfl ?_
  refine xV_aload_n e_X3_init_47 rfl ?_
  refine xV_sipush (v := nI 812) e_X3_init_48 (by decide) ?_
  refine tV_newI (n := 128) (no := 134) (len := 812) e_X3_init_51 rfl (by decide) rfl (fun k => by rw [xst_o (by omega)]; exact (hf _ k (by omega)).2.2) (by omega) (by omega) (by omega) rfl ?_
  refine xV_putRF e_X3_init_53 p_X3_29 (by rw [TW_sh (by omega) (by omega)]; rfl) rfl rfl rfl rfl ?_
  refine xV_aload_n e_X3_init_56 rfl ?_
  refine xV_bipush (v := nI 116) e_X3_init_57 (by decide) ?_
  refine tV_newI (n := 129) (no := 134) (len := 116) e_X3_init_59 rfl (by decide) rfl (fun k => by rw [xst_o (by omega)]; exact (hf _ k (by omega)).2.2) (by omega) (by omega) (by omega) rfl ?_
  refine xV_putRF e_X3_init_61 p_X3_32 (by rw [TW_sh (by omega) (by omega)]; rfl) rfl rfl rfl rfl ?_
  refine xV_aload_n e_X3_init_64 rfl ?_
  refine xV_iconst (v := nI 2) e_X3_init_65 (by decide) ?_
  refine tV_newZ (n := 130) (no := 134) (len := 2) e_X3_init_66 rfl (by decide) rfl (fun k => by rw [xst_o (by omega)]; exact (hf _ k (by omega)).2.2) (by omega) (by omega) (by omega) rfl ?_
  refine xV_putRF e_X3_init_68 p_X3_35 (by rw [TW_sh (by omega) (by omega)]; rfl) rfl rfl rfl rfl ?_
  refine xV_aload_n e_X3_init_71 rfl ?_
  refine xV_bipush (v := nI 6) e_X3_init_72 (by decide) ?_
  refine tV_newI (n := 131) (no := 134) (len := 6) e_X3_init_74 rfl (by decide) rfl (fun k => by rw [xst_o (by omega)]; exact (hf _ k (by omega)).2.2) (by omega) (by omega) (by omega) rfl ?_
  refine xV_putRF e_X3_init_76 p_X3_39 (by rw [TW_sh (by omega) (by omega)]; rfl) rfl rfl rfl rfl ?_
  refine xV_aload_n e_X3_init_79 rfl ?_
  refine xV_bipush (v := nI 6) e_X3_init_80 (by decide) ?_
  refine tV_newI (n := 132) (no := 134) (len := 6) e_X3_init_82 rfl (by decide) rfl (fun k => by rw [xst_o (by omega)]; exact (hf _ k (by omega)).2.2) (by omega) (by omega) (by omega) rfl ?_
  refine xV_putRF e_X3_init_84 p_X3_42 (by rw [TW_sh (by omega) (by omega)]; rfl) rfl rfl rfl rfl ?_
  refine xV_aload_n e_X3_init_87 rfl ?_
  refine xV_bipush (v := nI 58) e_X3_init_88 (by decide) ?_
  refine tV_newI (n := 133) (no := 134) (len := 58) e_X3_init_90 rfl (by decide) rfl (fun k => by rw [xst_o (by omega)]; exact (hf _ k (by omega)).2.2) (by omega) (by omega) (by omega) rfl ?_
  refine xV_putRF e_X3_init_92 p_X3_45 (by rw [TW_sh (by omega) (by omega)]; rfl) rfl rfl rfl rfl ?_
  exact xV_return e_X3_init_95 rfl rfl ⟨rfl, rfl, rfl, rfl⟩
/-- the model's shape at m -/
def XM (G : xG) (T : xT) (R : xR) (m : Nat) : Prop := (xSh G T m).1 = 3 ∧ R m 1 = some (m + 1) ∧ xSh G T (m + 1) = (4, 72) ∧ R m 6 = some (m + 2) ∧ xSh G T (m + 2) = (4, 4) ∧ R m 7 = some (m + 3) ∧ xSh G T (m + 3) = (4, 58) ∧ R m 12 = some (m + 4) ∧ xSh G T (m + 4) = (4, 58) ∧ R m 13 = some (m + 5) ∧ xSh G T (m + 5) = (4, 4) ∧ R m 15 = some (m + 6) ∧ xSh G T (m + 6) = (4, 812) ∧ R m 17 = some (m + 7) ∧ xSh G T (m + 7) = (4, 116) ∧ R m 18 = some (m + 8) ∧ xSh G T (m + 8) = (5, 2) ∧ R m 20 = some (m + 9) ∧ xSh G T (m + 9) = (4, 6) ∧ R m 21 = some (m + 10) ∧ xSh G T (m + 10) = (4, 6) ∧ R m 22 = some (m + 11) ∧ xSh G T (m + 11) = (4, 58)
theorem ri3_o {b a : Nat} (h : a ≠ b + 122) : ri3 b R a = R a := by
  unfold ri3
  rw [xsr_o h, xsr_o h, xsr_o h, xsr_o h, xsr_o h, xsr_o h, xsr_o h, xsr_o h, xsr_o h, xsr_o h, xsr_o h]
theorem XM.init : XM G (TW 134) (ri3 G.2.2.1 R) (G.2.2.1 + 122) := by
  refine ⟨by rw [TW_sh (by omega) (by omega)]; rfl, ?_, ?_, ?_, ?_, ?_, ?_, ?_, ?_, ?_, ?_, ?_, ?_, ?_, ?_, ?_, ?_, ?_, ?_, ?_, ?_, ?_, ?_⟩
  all_goals first | (rw [Nat.add_assoc, TW_sh (by omega) (by omega)]; rfl) | (unfold ri3; simp only [xsr_s]; simp [va_up, Nat.add_assoc])
theorem riX_lo {b a : Nat} (h : a < b + 22) : riX b R a = ri0 b R a := by
  unfold riX
  rw [pR_o (by omega) (by omega), pR_o (by omega) (by omega)]
theorem ri0_m {b n k : Nat} (hn : n = 3 ∨ n = 9 ∨ n = 15) (hk : k < 5) : ri0 b R (b + n) k = some (b + n + 1 + k) := by
  unfold ri0
  rcases hn with rfl | rfl | rfl
  all_goals repeat (first | rw [mR_s hk] | rw [xsr_o (by omega)] | rw [mR_o (by omega)])
theorem XS.init {R2 : xR} (hR : ∀ a, a < G.2.2.1 + 122 → R2 a = riX G.2.2.1 R a) : XS G (TW 134) R2 G.2.2.1 ∧ PastR R2 G.2.2.1 id := by
  have z : xSh G (TW 134) G.2.2.1 = tG 0 := TW_sh (a := 0) (by omega) (by omega)
  have t : ∀ a, a < 134 → xSh G (TW 134) (G.2.2.1 + a) = tG a := fun a h => TW_sh h (by omega)
  have f : ∀ i v, (i, v) ∈ xfl → R2 G.2.2.1 i = some (G.2.2.1 + v) := fun i v h => by rw [hR _ (by omega), riX_lo (by omega)]; exact ri0_x i v h
  have m : ∀ n, (n = 3 ∨ n = 9 ∨ n = 15) → blk n → MinS G (TW 134) R2 (G.2.2.1 + n) := fun n hn hb => blk_min hb (by omega) (by omega) (fun k hk => by rw [hR _ (by omega), riX_lo (by omega)]; exact ri0_m hn hk)
  have p : ∀ j, j < 14 → MinS G (TW 134) R2 (G.2.2.1 + 26 + 6 * j) := fun j hj => by
    rw [Nat.add_assoc]
    exact blk_min (xblk.1 j hj) (by omega) (by omega) (fun k hk => by rw [hR _ (by omega)]; unfold riX; rw [pR_o (by omega) (by omega)]; exact pR_min (by omega) hj hk)
  have q : ∀ j, j < 2 → MinS G (TW 134) R2 (G.2.2.1 + 110 + 6 * j) := fun j hj => by
    rw [Nat.add_assoc]
    exact blk_min (xblk.2.1 j hj) (by omega) (by omega) (fun k hk => by rw [hR _ (by omega)]; exact pR_min (by omega) hj hk)
  have r2 : R2 (G.2.2.1 + 2) 0 = some (G.2.2.1 + 2 + 1) := by
    rw [hR _ (by omega), riX_lo (by omega)]
    unfold ri0
    repeat (first | rw [xsr_s] | rw [xsr_o (by omega)] | rw [mR_o (by omega)])
    rw [va_up_s]
  refine ⟨⟨by rw [z]; rfl, f 0 1 (by decide), by rw [t 1 (by omega)]; rfl, f 2 2 (by decide), ⟨by rw [t 2 (by omega)]; rfl, r2, m 3 (Or.inl rfl) xblk.2.2.1⟩, f 3 9 (by decide), m 9 (Or.inr (Or.inl rfl)) xblk.2.2.2.1, f 4 15 (by decide), m 15 (Or.inr (Or.inr rfl)) xblk.2.2.2.2,
    f 5 21 (by decide), by rw [t 21 (by omega)]; rfl, f 6 22 (by decide), by rw [t 22 (by omega)]; rfl, f 8 23 (by decide), by rw [t 23 (by omega)]; rfl, ?_, q, f 10 24 (by decide), by rw [t 24 (by omega)]; rfl, f 11 25 (by decide), by rw [t 25 (by omega)]; rfl, p⟩, ?_, fun i j _ _ h => h⟩
  · intro i hi
    rw [hR _ (by omega)]
    unfold riX
    rw [pR_row (by omega)]
    dsimp only
    rw [if_pos hi, Nat.add_assoc]
  · intro i hi
    refine ⟨?_, hi⟩
    rw [hR _ (by omega)]
    unfold riX
    rw [pR_o (by omega) (by omega), pR_row (by omega)]
    dsimp only
    rw [if_pos hi, Nat.add_assoc]
    rfl
theorem Fr.X (hf : Fr G 0 R L I) : Fr G 122 (riX G.2.2.1 R) L (iiX G.2.2.1 I) := ((Fr.i0 hf).loop (k := 14) (m := 110) (by omega) rfl).loop (k := 2) (by omega) rfl
/-- the mine at the beginning -/
def m0 : xS := (fun k => if k = 5 then nI 1 else 0, fun _ => 0, fun _ => 0, fun _ => 0, fun _ => 0, fun _ => 0)
theorem iiX_x (hf : Fr G 0 R L I) : iiX G.2.2.1 I G.2.2.1 = fun _ => 0 := by
  unfold iiX ii0
  rw [iP_o (by omega), iP_o (by omega), xst_o (by omega), xst_o (by omega), xst_o (by omega)]
  exact funext fun k => (hf _ k (by omega)).2.2
theorem iiX_now (hf : Fr G 0 R L I) : mS (iiX G.2.2.1 I) (G.2.2.1 + 9) = m0 := by
  have z : ∀ a, G.2.2.1 ≤ a → I a = fun _ => 0 := fun a ha => funext fun k => (hf _ k (by omega)).2.2
  unfold mS iiX ii0
  rw [iP_o (by omega), iP_o (by omega), iP_o (by omega), iP_o (by omega), iP_o (by omega), iP_o (by omega), iP_o (by omega), iP_o (by omega), iP_o (by omega), iP_o (by omega), iP_o (by omega), iP_o (by omega)]
  rw [xst_o (by omega), xst_s, xst_o (by omega), xst_o (by omega), xst_o (by omega), xst_o (by omega), xst_o (by omega), xst_o (by omega), xst_o (by omega), xst_o (by omega), xst_o (by omega), xst_o (by omega), xst_o (by omega), xst_o (by omega), xst_o (by omega), xst_o (by omega), xst_o (by omega), xst_o (by omega), z _ (by omega), z _ (by omega), z _ (by omega), z _ (by omega), z _ (by omega), z _ (by omega)]
  unfold m0 upd
  rfl
end TWs
