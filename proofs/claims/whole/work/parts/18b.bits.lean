/-! BITS (the kit's family, and what the walks ask) -/
def bt (x : Int32) (i : Nat) : Bool := x.toBitVec.getLsbD i
theorem b_ext {x y : Int32} (h : ∀ i, i < 32 → bt x i = bt y i) : x = y := Int32.toBitVec_inj.mp (BitVec.eq_of_getLsbD_eq (fun i hi => h i hi))
theorem b_or (x y : Int32) (i : Nat) : bt (x ||| y) i = (bt x i || bt y i) := by unfold bt; rw [Int32.toBitVec_or, BitVec.getLsbD_or]
theorem b_and (x y : Int32) (i : Nat) : bt (x &&& y) i = (bt x i && bt y i) := by unfold bt; rw [Int32.toBitVec_and, BitVec.getLsbD_and]
theorem b_xor (x y : Int32) (i : Nat) : bt (x ^^^ y) i = (bt x i ^^ bt y i) := by unfold bt; rw [Int32.toBitVec_xor, BitVec.getLsbD_xor]
theorem b_big {x : Int32} {i : Nat} (h : 32 ≤ i) : bt x i = false := BitVec.getLsbD_of_ge _ _ h
theorem b_255 (i : Nat) : bt 255 i = decide (i < 8) := by
  rcases Nat.lt_or_ge i 32 with h | h
  · exact (by decide +kernel : ∀ i, i < 32 → bt 255 i = decide (i < 8)) i h
  · rw [b_big h, decide_eq_false (by omega)]
theorem b_65535 (i : Nat) : bt 65535 i = decide (i < 16) := by
  rcases Nat.lt_or_ge i 32 with h | h
  · exact (by decide +kernel : ∀ i, i < 32 → bt 65535 i = decide (i < 16)) i h
  · rw [b_big h, decide_eq_false (by omega)]
theorem b_m1 : ∀ i, i < 32 → bt (-1) i = true := by decide +kernel
theorem b_0 (i : Nat) : bt 0 i = false := BitVec.getLsbD_zero
theorem s_l : ∀ n, n < 32 → ((nI n &&& 31).toBitVec.smod 32).toNat = n := by decide +kernel
theorem s_u : ∀ n, n < 32 → (((nI n).toUInt32 &&& Int32.toUInt32 31).toBitVec % 32).toNat = n := by decide +kernel
theorem b_shl (n : Nat) (hn : n < 32) (x : Int32) {i : Nat} (hi : i < 32) : bt (x <<< (nI n &&& 31)) i = (decide (n ≤ i) && bt x (i - n)) := by
  unfold bt
  rw [Int32.toBitVec_shiftLeft]
  show (x.toBitVec <<< ((nI n &&& 31).toBitVec.smod 32).toNat).getLsbD i = _
  rw [s_l n hn, BitVec.getLsbD_shiftLeft]
  rcases Nat.lt_or_ge i n with h | h
  · simp [h, Nat.not_le.mpr h]
  · simp [hi, h, Nat.not_lt.mpr h]
theorem b_ushr (n : Nat) (hn : n < 32) (x : Int32) (i : Nat) : bt ((x.toUInt32 >>> ((nI n).toUInt32 &&& Int32.toUInt32 31)).toInt32) i = bt x (n + i) := by
  show (x.toUInt32 >>> ((nI n).toUInt32 &&& Int32.toUInt32 31)).toBitVec.getLsbD i = x.toUInt32.toBitVec.getLsbD (n + i)
  rw [UInt32.toBitVec_shiftRight]
  show (x.toUInt32.toBitVec >>> (((nI n).toUInt32 &&& Int32.toUInt32 31).toBitVec % 32).toNat).getLsbD i = _
  rw [s_u n hn, BitVec.getLsbD_ushiftRight]
theorem b_sshr (n : Nat) (hn : n < 32) (x : Int32) {i : Nat} (hi : i < 32) : bt (x >>> (nI n &&& 31)) i = if n + i < 32 then bt x (n + i) else bt x 31 := by
  unfold bt
  rw [Int32.toBitVec_shiftRight]
  show (x.toBitVec.sshiftRight ((nI n &&& 31).toBitVec.smod 32).toNat).getLsbD i = _
  rw [s_l n hn, BitVec.getLsbD_sshiftRight, BitVec.msb_eq_getLsbD_last]
  simp [hi]
theorem bt_one : ∀ i, i < 32 → bt (nI 1) i = decide (i = 0) := by decide +kernel
theorem and1 (x : Int32) : x &&& nI 1 = if bt x 0 = true then nI 1 else 0 := by
  apply b_ext
  intro i hi
  rw [b_and, bt_one i hi]
  by_cases e : i = 0
  · subst e
    cases h : bt x 0 <;> simp [b_0, bt_one]
  · have e2 : decide (i = 0) = false := decide_eq_false e
    rw [e2, Bool.and_false]
    split
    · rw [bt_one i hi, e2]
    · rw [b_0]
theorem and1_0 (x : Int32) : x &&& nI 1 = 0 ↔ bt x 0 = false := by
  rw [and1]
  cases bt x 0 <;> simp <;> decide
theorem hs_bt {b : Int32} {k : Nat} (hk : k < 32) : hs b (nI k) = bt b k := by
  have e := and1_0 (b >>> (nI k &&& 31))
  rw [b_sshr k hk b (by decide), Nat.add_zero, if_pos hk] at e
  unfold hs
  cases h : bt b k
  · exact decide_eq_false (fun z => z (e.mpr h))
  · exact decide_eq_true (fun z => by rw [e.mp z] at h; cases h)
theorem hs3 (b i : Int32) : decide ((b >>> (i &&& 31)) &&& nI 1 = nI 1) = hs b i := by
  unfold hs
  rw [and1]
  cases bt (b >>> (i &&& 31)) 0 <;> simp <;> decide
theorem bt_ones : ∀ mo, mo < 5 → ∀ k, k < 32 → bt ((nI 1 <<< (nI mo &&& 31)) - nI 1) k = decide (k < mo) := by decide +kernel
theorem bt_not {x : Int32} {k : Nat} (hk : k < 32) : bt (x ^^^ (-1)) k = !bt x k := by rw [b_xor, b_m1 k hk]; simp
theorem hs_liv {f : Nat → Int32} {mo k : Nat} (hmo : f 6 = nI mo) (hm : mo ≤ 4) (hk : k < 32) : hs (vLiv f) (nI k) = (decide (k < mo) && !hs (f 8) (nI k)) := by
  rw [hs_bt hk, hs_bt hk]
  unfold vLiv
  rw [b_and, hmo, bt_ones mo (by omega) k hk, bt_not hk]
theorem bMonk_N {f : Nat → Int32} {mo k : Nat} (hmo : f 6 = nI mo) (hm : mo ≤ 4) (hk : k < 32) : bMonk f (nI k) = decide (k < mo) := by
  unfold bMonk
  rw [hmo, decide_eq_true (nI_pos' (by omega)), Bool.true_and]
  exact decide_eq_decide.mpr (nI_ltI (by omega) (by omega))
theorem bLiv_hs {f : Nat → Int32} {mo k : Nat} (hmo : f 6 = nI mo) (hm : mo ≤ 4) (hk : k < 32) : bLiv f (nI k) = hs (vLiv f) (nI k) := by
  rw [hs_liv hmo hm hk]
  unfold bLiv
  rw [bMonk_N hmo hm hk]
