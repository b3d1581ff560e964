/-! THE PLAN OF THE MEMORY; CONSTRUCTORS -/
def tMs : xT := [(0, 0), (4, 12), (4, 12), (4, 12), (4, 12), (4, 4)]
def tXs : xT := [(2, 0), (4, 72), (1, 0)] ++ (tMs ++ tMs ++ tMs) ++ [(4, 8), (6, 14), (6, 2), (4, 6), (4, 6)] ++ (tMs ++ tMs ++ tMs ++ tMs ++ tMs ++ tMs ++ tMs ++ tMs ++ tMs ++ tMs ++ tMs ++ tMs ++ tMs ++ tMs) ++ (tMs ++ tMs)
def tAll : xT := tXs ++ [(3, 0), (4, 72), (4, 4), (4, 58), (4, 58), (4, 4), (4, 812), (4, 116), (5, 2), (4, 6), (4, 6), (4, 58)]
theorem tAll_len : tAll.length = 134 := by decide +kernel
def tG (n : Nat) : Nat × Nat := (tAll[n]?).getD (99, 0)
/-- the first n cells of the plan -/
def TW (n : Nat) : xT := tAll.take n
section TWs
variable {G : xG} {Y : xY} {o : xO} {pc pc' idx n nb no len : Nat} {xl : List (Option Value)} {st : List Value} {R : xR} {L : xL} {I : xI}
theorem TW_len (h : n ≤ 134) : (TW n).length = n := by
  unfold TW
  rw [List.length_take, tAll_len]
  omega
theorem TW_s (h : n < 134) : TW n ++ [tG n] = TW (n + 1) := by
  unfold TW tG
  have hl : n < tAll.length := by rw [tAll_len]; exact h
  rw [List.take_add_one, List.getElem?_eq_getElem hl]
  rfl
theorem TW_sh {a : Nat} (ha : a < n) (hn : n ≤ 134) : xSh G (TW n) (G.2.2.1 + a) = tG a := by
  unfold xSh TW tG
  rw [if_neg (by omega), show G.2.2.1 + a - G.2.2.1 = a by omega, List.getElem?_take_of_lt ha]
theorem TW_le (h : n ≤ no) (hn : no ≤ 134) : xle (TW n) (TW no) := by
  induction no with
  | zero =>
    obtain rfl : n = 0 := by omega
    exact xle_r _
  | succ m ih =>
    by_cases e : n = m + 1
    · subst e; exact xle_r _
    · have q := ih (by omega) (by omega)
      rw [← TW_s (n := m) (by omega)]
      refine ⟨by rw [List.length_append]; exact Nat.le_trans q.1 (by omega), ?_⟩
      have z := q.2
      unfold xZ at z ⊢
      rw [List.map_append, List.sum_append]
      omega
/-- nothing lies there yet -/
def Fr (G : xG) (n : Nat) (R : xR) (L : xL) (I : xI) : Prop := ∀ a k, G.2.2.1 + n ≤ a → R a k = none ∧ L a k = 0 ∧ I a k = 0
theorem tV_newI {v : Int32} (hd : decode Y.2.1 pc = .ok (.newarray .int, 2) ∧ pc + 2 = pc') (hv : v = nI len) (hn : len < 100000) (ht : tG n = (4, len)) (hz : ∀ k, I (G.2.2.1 + n) k = 0) (hnb : nb ≤ n) (hno : n < no) (h134 : no ≤ 134) (ho : o.1 = TW no)
    (k : xV G Y (TW nb) o pc' xl (.ref (G.2.2.1 + n) :: st) (TW (n + 1)) R L I) : xV G Y (TW nb) o pc xl (.int v :: st) (TW n) R L I := by
  have e := TW_s (n := n) (by omega)
  rw [ht] at e
  refine xV_newI hd n_int hv hn (by rw [TW_len (by omega)]) hz (TW_le hnb (by omega)) (by rw [e, ho]; exact TW_le hno h134) ?_
  rw [e]
  exact k
theorem tV_newZ {v : Int32} (hd : decode Y.2.1 pc = .ok (.newarray .boolean, 2) ∧ pc + 2 = pc') (hv : v = nI len) (hn : len < 100000) (ht : tG n = (5, len)) (hz : ∀ k, I (G.2.2.1 + n) k = 0) (hnb : nb ≤ n) (hno : n < no) (h134 : no ≤ 134) (ho : o.1 = TW no)
    (k : xV G Y (TW nb) o pc' xl (.ref (G.2.2.1 + n) :: st) (TW (n + 1)) R L I) : xV G Y (TW nb) o pc xl (.int v :: st) (TW n) R L I := by
  have e := TW_s (n := n) (by omega)
  rw [ht] at e
  refine xV_newZ hd n_boolean hv hn (by rw [TW_len (by omega)]) hz (TW_le hnb (by omega)) (by rw [e, ho]; exact TW_le hno h134) ?_
  rw [e]
  exact k
theorem tV_newQ {v : Int32} (hd : decode Y.2.1 pc = .ok (.anewarray idx, 3) ∧ pc + 3 = pc') (hw : Cond.classLink Y.1.cls idx RX0 ∈ xW) (hv : v = nI len) (hn : len < 100000) (ht : tG n = (6, len)) (hz : ∀ k, R (G.2.2.1 + n) k = none) (hnb : nb ≤ n) (hno : n < no) (h134 : no ≤ 134) (ho : o.1 = TW no)
    (k : xV G Y (TW nb) o pc' xl (.ref (G.2.2.1 + n) :: st) (TW (n + 1)) R L I) : xV G Y (TW nb) o pc xl (.int v :: st) (TW n) R L I := by
  have e := TW_s (n := n) (by omega)
  rw [ht] at e
  refine xV_newQ hd hw hv hn (by rw [TW_len (by omega)]) hz (TW_le hnb (by omega)) (by rw [e, ho]; exact TW_le hno h134) ?_
  rw [e]
  exact k
theorem tV_new {ci : Nat} (hd : decode Y.2.1 pc = .ok (.new idx, 3) ∧ pc + 3 = pc') (hc : xCN Y.1.cls idx ci) (ht : tG n = (ci, 0)) (hz : ∀ k, R (G.2.2.1 + n) k = none ∧ L (G.2.2.1 + n) k = 0 ∧ I (G.2.2.1 + n) k = 0) (hnb : nb ≤ n) (hno : n < no) (h134 : no ≤ 134) (ho : o.1 = TW no)
    (k : xV G Y (TW nb) o pc' xl (.ref (G.2.2.1 + n) :: st) (TW (n + 1)) R L I) : xV G Y (TW nb) o pc xl st (TW n) R L I := by
  have e := TW_s (n := n) (by omega)
  rw [ht] at e
  refine xV_new hd hc (by rw [TW_len (by omega)]) hz (TW_le hnb (by omega)) (by rw [e, ho]; exact TW_le hno h134) ?_
  rw [e]
  exact k
/-- a mine has its place there -/
def blk (n : Nat) : Prop := n + 6 ≤ 134 ∧ tG n = (0, 0) ∧ tG (n + 1) = (4, 12) ∧ tG (n + 2) = (4, 12) ∧ tG (n + 3) = (4, 12) ∧ tG (n + 4) = (4, 12) ∧ tG (n + 5) = (4, 4)
def mR (R : xR) (h : Nat) : xR := va_up R h (fun k => if k < 5 then some (h + 1 + k) else none)
theorem mR_s {h k : Nat} (hk : k < 5) : mR R h h k = some (h + 1 + k) := by unfold mR; rw [va_up_s, if_pos hk]
theorem mR_o {h a : Nat} (ha : a ≠ h) : mR R h a = R a := by unfold mR; rw [va_up_n ha]
theorem mR_eq {h : Nat} (hR : ∀ k, R h k = none) : xsr (xsr (xsr (xsr (xsr R h 0 (h + 1)) h 1 (h + 2)) h 2 (h + 3)) h 3 (h + 4)) h 4 (h + 5) = mR R h := by
  unfold mR xsr
  simp only [va_up_s, va_up_up]
  congr 1
  funext k
  have e : k = 0 ∨ k = 1 ∨ k = 2 ∨ k = 3 ∨ k = 4 ∨ 5 ≤ k := by omega
  rcases e with rfl | rfl | rfl | rfl | rfl | e
  · rfl
  · rfl
  · rfl
  · rfl
  · rfl
  · rw [if_neg (by omega), va_up_n (by omega), va_up_n (by omega), va_up_n (by omega), va_up_n (by omega), va_up_n (by omega), hR]
theorem blk_min (hb : blk n) (hn : n + 6 ≤ no) (h134 : no ≤ 134) (hR : ∀ k, k < 5 → R (G.2.2.1 + n) k = some (G.2.2.1 + n + 1 + k)) : MinS G (TW no) R (G.2.2.1 + n) := by
  obtain ⟨b0, b1, b2, b3, b4, b5, b6⟩ := hb
  have t : ∀ j, j < 6 → xSh G (TW no) (G.2.2.1 + n + j) = tG (n + j) := fun j hj => by rw [Nat.add_assoc]; exact TW_sh (by omega) h134
  refine ⟨?_, hR 0 (by omega), hR 1 (by omega), hR 2 (by omega), hR 3 (by omega), hR 4 (by omega), ?_, ?_, ?_, ?_, ?_⟩
  · have q := t 0 (by omega)
    rw [Nat.add_zero, Nat.add_zero, b1] at q
    rw [q]
  · rw [t 1 (by omega)]; exact b2
  · rw [t 2 (by omega)]; exact b3
  · rw [t 3 (by omega)]; exact b4
  · rw [t 4 (by omega)]; exact b5
  · rw [t 5 (by omega)]; exact b6
set_option maxHeartbeats 4000000 in
set_option maxRecDepth 100000 in
theorem C_X0_init (hb : blk n) (hf : Fr G n R L I) : xCon G Y_X0_init [.ref (G.2.2.1 + n)] (TW (n + 1)) R L I (xD none (TW (n + 6)) (mR R (G.2.2.1 + n)) L (xst I (G.2.2.1 + n) 5 (nI 1))) := by
  obtain ⟨b0, b1, b2, b3, b4, b5, b6⟩ := id hb
  refine xCon.mk (xl := [some (.ref (G.2.2.1 + n))]) (by decide +kernel) (TW_le (by omega) b0) rfl (Nat.le_of_ble_eq_true rfl) rfl ?_
  refine xV_aload_n e_X0_init_0 rfl ?_
  refine xV_objInit e_X0_init_1 c_X0_3 (Nat.le_of_ble_eq_true rfl) (Nat.le_of_ble_eq_true rfl) ?_
  refine xV_aload_n e_X0_init_4 rfl ?_
  refine xV_bipush (v := nI 12) e_X0_init_5 (by decide) ?_
  refine tV_newI (n := n + 1) (no := n + 6) (len := 12) e_X0_init_7 rfl (by decide) b2 (fun k => (hf _ k (by omega)).2.2) (by omega) (by omega) b0 rfl ?_
  refine xV_putRF e_X0_init_9 p_X0_9 (by rw [TW_sh (by omega) (by omega), b1]) rfl rfl rfl rfl ?_
  refine xV_aload_n e_X0_init_12 rfl ?_
  refine xV_bipush (v := nI 12) e_X0_init_13 (by decide) ?_
  refine tV_newI (n := n + 2) (no := n + 6) (len := 12) e_X0_init_15 rfl (by decide) b3 (fun k => (hf _ k (by omega)).2.2) (by omega) (by omega) b0 rfl ?_
  refine xV_putRF e_X0_init_17 p_X0_15 (by rw [TW_sh (by omega) (by omega), b1]) rfl rfl rfl rfl ?_
  refine xV_aload_n e_X0_init_20 rfl ?_
  refine xV_bipush (v := nI 12) e_X0_init_21 (by decide) ?_
  refine tV_newI (n := n + 3) (no := n + 6) (len := 12) e_X0_init_23 rfl (by decide) b4 (fun k => (hf _ k (by omega)).2.2) (by omega) (by omega) b0 rfl ?_
  refine xV_putRF e_X0_init_25 p_X0_18 (by rw [TW_sh (by omega) (by omega), b1]) rfl rfl rfl rfl ?_
  refine xV_aload_n e_X0_init_28 rfl ?_
  refine xV_bipush (v := nI 12) e_X0_init_29 (by decide) ?_
  refine tV_newI (n := n + 4) (no := n + 6) (len := 12) e_X0_init_31 rfl (by decide) b5 (fun k => (hf _ k (by omega)).2.2) (by omega) (by omega) b0 rfl ?_
  refine xV_putRF e_X0_init_33 p_X0_21 (by rw [TW_sh (by omega) (by omega), b1]) rfl rfl rfl rfl ?_
  refine xV_aload_n e_X0_init_36 rfl ?_
  refine xV_iconst (v := nI 4) e_X0_init_37 (by decide) ?_
  refine tV_newI (n := n + 5) (no := n + 6) (len := 4) e_X0_init_38 rfl (by decide) b6 (fun k => (hf _ k (by omega)).2.2) (by omega) (by omega) b0 rfl ?_
  refine xV_putRF e_X0_init_40 p_X0_24 (by rw [TW_sh (by omega) (by omega), b1]) rfl rfl rfl rfl ?_
  refine xV_aload_n e_X0_init_43 rfl ?_
  refine xV_iconst (v := nI 1) e_X0_init_44 (by decide) ?_
  refine xV_putI e_X0_init_45 p_X0_27 (by rw [TW_sh (by omega) (by omega), b1]) ?_
  exact xV_return e_X0_init_48 rfl rfl ⟨rfl, mR_eq (fun k => (hf _ k (by omega)).1), rfl, rfl⟩
end TWs
