/-! SMALL STATIC METHODS -/
section XLEAF
variable {G : xG} {T : xT} {R : xR} {L : xL} {I : xI}
def hs (b i : Int32) : Bool := decide (¬ (b >>> (i &&& 31)) &&& nI 1 = 0)
def bCell (c : Int32) : Bool := decide (0 ≤ c) && decide (c < nI 12)
def bIn (i : Int32) (n : Nat) : Bool := decide (0 ≤ i) && decide (i < nI n)
def xat (n : Nat) (f : Nat → Int32) (i : Int32) : Int32 := if bIn i n = true then f i.toNatClampNeg else nI 0
def xput (I : xI) (a n : Nat) (i v : Int32) : xI := if bIn i n = true then xst I a i.toNatClampNeg v else I
theorem bIn_vp {i : Int32} {n : Nat} (hn : n < 2 ^ 31) (h : 0 ≤ i) (h2 : i < nI n) : vp_in i n := by
  refine vp_in_iff.mpr ⟨by simpa using Int32.le_iff_toInt_le.mp h, ?_⟩
  have := Int32.lt_iff_toInt_lt.mp h2
  rwa [nI_toInt hn] at this
theorem bIn_N {k n : Nat} (hk : k < n) (hn : n < 2 ^ 31) : bIn (nI k) n = true := by
  simp only [bIn, Bool.and_eq_true, decide_eq_true_eq]
  exact ⟨nI_pos' (by omega), (nI_ltI (by omega) hn).mpr hk⟩
theorem xat_N {k n : Nat} {f : Nat → Int32} (hk : k < n) (hn : n < 2 ^ 31) : xat n f (nI k) = f k := by
  rw [xat, if_pos (bIn_N hk hn), nI_clamp (Nat.lt_trans hk hn)]
theorem xput_N {I : xI} {a k n : Nat} {v : Int32} (hk : k < n) (hn : n < 2 ^ 31) : xput I a n (nI k) v = xst I a k v := by
  rw [xput, if_pos (bIn_N hk hn), nI_clamp (Nat.lt_trans hk hn)]
theorem i_nlt {x y : Int32} (h : x < y) : ¬ y ≤ x := Int32.not_le.mpr h
theorem i_nle {x y : Int32} (h : ¬ x < y) : y ≤ x := Int32.not_lt.mp h
set_option maxHeartbeats 4000000 in
set_option maxRecDepth 100000 in
theorem C_X2_has {b i : Int32} : xCon G Y_X2_has [.int b, .int i] T R L I (xD (some (.int (xb (hs b i)))) T R L I) := by
  refine xCon.mk (xl := [some (.int b), some (.int i)]) (by decide +kernel) (xle_r _) rfl (Nat.le_of_ble_eq_true rfl) rfl ?_
  refine xV_iload_n e_X2_has_0 rfl ?_
  refine xV_iload_n e_X2_has_1 rfl ?_
  refine xV_ishr e_X2_has_2 ?_
  refine xV_iconst (v := (nI 1)) e_X2_has_3 (by decide) ?_
  refine xV_iand e_X2_has_4 ?_
  refine xV_if_eq e_X2_has_5 (fun h5 => ?_) (fun h5 => ?_)
  · refine xV_iconst (v := (nI 0)) e_X2_has_12 (by decide) ?_
    exact xV_zreturn e_X2_has_13 rfl rfl rfl (by first | exact ⟨xret_t (decide_eq_true h5), rfl, rfl, rfl⟩ | exact ⟨xret_f (decide_eq_false (fun h => h h5)), rfl, rfl, rfl⟩)
  · refine xV_iconst (v := (nI 1)) e_X2_has_8 (by decide) ?_
    refine xV_goto e_X2_has_9 ?_
    exact xV_zreturn e_X2_has_13 rfl rfl rfl (by first | exact ⟨xret_t (decide_eq_true h5), rfl, rfl, rfl⟩ | exact ⟨xret_f (decide_eq_false (fun h => h h5)), rfl, rfl, rfl⟩)
set_option maxHeartbeats 4000000 in
set_option maxRecDepth 100000 in
theorem C_X3_has {b i : Int32} : xCon G Y_X3_has [.int b, .int i] T R L I (xD (some (.int (xb (decide ((b >>> (i &&& 31)) &&& nI 1 = nI 1))))) T R L I) := by
  refine xCon.mk (xl := [some (.int b), some (.int i)]) (by decide +kernel) (xle_r _) rfl (Nat.le_of_ble_eq_true rfl) rfl ?_
  refine xV_iload_n e_X3_has_0 rfl ?_
  refine xV_iload_n e_X3_has_1 rfl ?_
  refine xV_ishr e_X3_has_2 ?_
  refine xV_iconst (v := (nI 1)) e_X3_has_3 (by decide) ?_
  refine xV_iand e_X3_has_4 ?_
  refine xV_iconst (v := (nI 1)) e_X3_has_5 (by decide) ?_
  refine xV_icmp_ne e_X3_has_6 (fun h6 => ?_) (fun h6 => ?_)
  · refine xV_iconst (v := (nI 0)) e_X3_has_13 (by decide) ?_
    exact xV_zreturn e_X3_has_14 rfl rfl rfl (by first | exact ⟨xret_t (decide_eq_true h6), rfl, rfl, rfl⟩ | exact ⟨xret_f (decide_eq_false h6), rfl, rfl, rfl⟩)
  · refine xV_iconst (v := (nI 1)) e_X3_has_9 (by decide) ?_
    refine xV_goto e_X3_has_10 ?_
    exact xV_zreturn e_X3_has_14 rfl rfl rfl (by first | exact ⟨xret_t (decide_eq_true h6), rfl, rfl, rfl⟩ | exact ⟨xret_f (decide_eq_false h6), rfl, rfl, rfl⟩)
set_option maxHeartbeats 4000000 in
set_option maxRecDepth 100000 in
theorem C_X2_isCell {c : Int32} : xCon G Y_X2_isCell [.int c] T R L I (xD (some (.int (xb (bCell c)))) T R L I) := by
  refine xCon.mk (xl := [some (.int c)]) (by decide +kernel) (xle_r _) rfl (Nat.le_of_ble_eq_true rfl) rfl ?_
  refine xV_iload_n e_X2_isCell_0 rfl ?_
  refine xV_if_lt e_X2_isCell_1 (fun h1 => ?_) (fun h1 => ?_)
  · refine xV_iconst (v := (nI 0)) e_X2_isCell_14 (by decide) ?_
    exact xV_zreturn e_X2_isCell_15 rfl rfl rfl (by first | exact ⟨xret_t (by simp only [bCell, Bool.and_eq_true, decide_eq_true_eq]; exact ⟨i_nle h1, Int32.not_le.mp h7⟩), rfl, rfl, rfl⟩ | exact ⟨xret_f (by simp only [bCell, Bool.and_eq_false_iff, decide_eq_false_iff_not]; first | exact Or.inl (i_nlt h1) | exact Or.inr (Int32.not_lt.mpr h7)), rfl, rfl, rfl⟩)
  · refine xV_iload_n e_X2_isCell_4 rfl ?_
    refine xV_bipush (v := (nI 12)) e_X2_isCell_5 (by decide) ?_
    refine xV_icmp_ge e_X2_isCell_7 (fun h7 => ?_) (fun h7 => ?_)
    · refine xV_iconst (v := (nI 0)) e_X2_isCell_14 (by decide) ?_
      exact xV_zreturn e_X2_isCell_15 rfl rfl rfl (by first | exact ⟨xret_t (by simp only [bCell, Bool.and_eq_true, decide_eq_true_eq]; exact ⟨i_nle h1, Int32.not_le.mp h7⟩), rfl, rfl, rfl⟩ | exact ⟨xret_f (by simp only [bCell, Bool.and_eq_false_iff, decide_eq_false_iff_not]; first | exact Or.inl (i_nlt h1) | exact Or.inr (Int32.not_lt.mpr h7)), rfl, rfl, rfl⟩)
    · refine xV_iconst (v := (nI 1)) e_X2_isCell_10 (by decide) ?_
      refine xV_goto e_X2_isCell_11 ?_
      exact xV_zreturn e_X2_isCell_15 rfl rfl rfl (by first | exact ⟨xret_t (by simp only [bCell, Bool.and_eq_true, decide_eq_true_eq]; exact ⟨i_nle h1, Int32.not_le.mp h7⟩), rfl, rfl, rfl⟩ | exact ⟨xret_f (by simp only [bCell, Bool.and_eq_false_iff, decide_eq_false_iff_not]; first | exact Or.inl (i_nlt h1) | exact Or.inr (Int32.not_lt.mpr h7)), rfl, rfl, rfl⟩)
set_option maxHeartbeats 4000000 in
set_option maxRecDepth 100000 in
theorem C_J9_max_7cf53 {a b : Int32} : xCon G Y_J9_max_7cf53 [.int a, .int b] T R L I (xD (some (.int (if a < b then b else a))) T R L I) := by
  refine xCon.mk (xl := [some (.int a), some (.int b)]) (by decide +kernel) (xle_r _) rfl (Nat.le_of_ble_eq_true rfl) rfl ?_
  refine xV_iload_n e_J9_max_7cf53_0 rfl ?_
  refine xV_iload_n e_J9_max_7cf53_1 rfl ?_
  refine xV_icmp_lt e_J9_max_7cf53_2 (fun h2 => ?_) (fun h2 => ?_)
  · refine xV_iload_n e_J9_max_7cf53_9 rfl ?_
    exact xV_ireturn e_J9_max_7cf53_10 rfl rfl (by first | exact ⟨by rw [if_pos h2], rfl, rfl, rfl⟩ | exact ⟨by rw [if_neg h2], rfl, rfl, rfl⟩ | exact ⟨by rw [if_neg h2], rfl, rfl, rfl⟩)
  · refine xV_iload_n e_J9_max_7cf53_5 rfl ?_
    refine xV_goto e_J9_max_7cf53_6 ?_
    exact xV_ireturn e_J9_max_7cf53_10 rfl rfl (by first | exact ⟨by rw [if_pos h2], rfl, rfl, rfl⟩ | exact ⟨by rw [if_neg h2], rfl, rfl, rfl⟩ | exact ⟨by rw [if_neg h2], rfl, rfl, rfl⟩)
set_option maxHeartbeats 4000000 in
set_option maxRecDepth 100000 in
theorem C_J9_min_7cf53 {a b : Int32} : xCon G Y_J9_min_7cf53 [.int a, .int b] T R L I (xD (some (.int (if b < a then b else a))) T R L I) := by
  refine xCon.mk (xl := [some (.int a), some (.int b)]) (by decide +kernel) (xle_r _) rfl (Nat.le_of_ble_eq_true rfl) rfl ?_
  refine xV_iload_n e_J9_min_7cf53_0 rfl ?_
  refine xV_iload_n e_J9_min_7cf53_1 rfl ?_
  refine xV_icmp_gt e_J9_min_7cf53_2 (fun h2 => ?_) (fun h2 => ?_)
  · refine xV_iload_n e_J9_min_7cf53_9 rfl ?_
    exact xV_ireturn e_J9_min_7cf53_10 rfl rfl (by first | exact ⟨by rw [if_pos h2], rfl, rfl, rfl⟩ | exact ⟨by rw [if_neg h2], rfl, rfl, rfl⟩ | exact ⟨by rw [if_neg h2], rfl, rfl, rfl⟩)
  · refine xV_iload_n e_J9_min_7cf53_5 rfl ?_
    refine xV_goto e_J9_min_7cf53_6 ?_
    exact xV_ireturn e_J9_min_7cf53_10 rfl rfl (by first | exact ⟨by rw [if_pos h2], rfl, rfl, rfl⟩ | exact ⟨by rw [if_neg h2], rfl, rfl, rfl⟩ | exact ⟨by rw [if_neg h2], rfl, rfl, rfl⟩)
set_option maxHeartbeats 4000000 in
set_option maxRecDepth 100000 in
theorem C_X2_at {a n : Nat} {f : Nat → Int32} {i : Int32} (hr : xRow G T I a n f) (hn : n < 2 ^ 31) : xCon G Y_X2_at [.ref a, .int i] T R L I (xD (some (.int (xat n f i))) T R L I) := by
  refine xCon.mk (xl := [some (.ref a), some (.int i)]) (by decide +kernel) (xle_r _) rfl (Nat.le_of_ble_eq_true rfl) rfl ?_
  refine xV_iload_n e_X2_at_0 rfl ?_
  refine xV_if_lt e_X2_at_1 (fun h1 => ?_) (fun h1 => ?_)
  · refine xV_iconst (v := (nI 0)) e_X2_at_16 (by decide) ?_
    exact xV_ireturn e_X2_at_17 rfl rfl (by first | exact ⟨by rw [xat, if_pos (by simp only [bIn, Bool.and_eq_true, decide_eq_true_eq]; exact ⟨i_nle h1, Int32.not_le.mp h7⟩)], rfl, rfl, rfl⟩ | exact ⟨by rw [xat, if_neg (by simp only [bIn, Bool.and_eq_true, decide_eq_true_eq]; intro q; first | exact i_nlt h1 q.1 | exact i_nlt q.2 h7)], rfl, rfl, rfl⟩)
  · refine xV_iload_n e_X2_at_4 rfl ?_
    refine xV_aload_n e_X2_at_5 rfl ?_
    refine xV_alenN e_X2_at_6 hr ?_
    refine xV_icmp_ge e_X2_at_7 (fun h7 => ?_) (fun h7 => ?_)
    · refine xV_iconst (v := (nI 0)) e_X2_at_16 (by decide) ?_
      exact xV_ireturn e_X2_at_17 rfl rfl (by first | exact ⟨by rw [xat, if_pos (by simp only [bIn, Bool.and_eq_true, decide_eq_true_eq]; exact ⟨i_nle h1, Int32.not_le.mp h7⟩)], rfl, rfl, rfl⟩ | exact ⟨by rw [xat, if_neg (by simp only [bIn, Bool.and_eq_true, decide_eq_true_eq]; intro q; first | exact i_nlt h1 q.1 | exact i_nlt q.2 h7)], rfl, rfl, rfl⟩)
    · refine xV_aload_n e_X2_at_10 rfl ?_
      refine xV_iload_n e_X2_at_11 rfl ?_
      refine xV_iald e_X2_at_12 hr (bIn_vp hn (i_nle h1) (Int32.not_le.mp h7)) ?_
      refine xV_goto e_X2_at_13 ?_
      exact xV_ireturn e_X2_at_17 rfl rfl (by first | exact ⟨by rw [xat, if_pos (by simp only [bIn, Bool.and_eq_true, decide_eq_true_eq]; exact ⟨i_nle h1, Int32.not_le.mp h7⟩)], rfl, rfl, rfl⟩ | exact ⟨by rw [xat, if_neg (by simp only [bIn, Bool.and_eq_true, decide_eq_true_eq]; intro q; first | exact i_nlt h1 q.1 | exact i_nlt q.2 h7)], rfl, rfl, rfl⟩)
theorem C_X2_atN {a n k : Nat} {f : Nat → Int32} (hr : xRow G T I a n f) (hk : k < n) (hn : n < 2 ^ 31) : xCon G Y_X2_at [.ref a, .int (nI k)] T R L I (xD (some (.int (f k))) T R L I) := by
  have h := C_X2_at (R := R) (L := L) (i := nI k) hr hn
  rwa [xat_N hk hn] at h
set_option maxHeartbeats 4000000 in
set_option maxRecDepth 100000 in
theorem C_X2_put {a n : Nat} {i v : Int32} (hs : xSh G T a = (4, n)) (hn : n < 2 ^ 31) : xCon G Y_X2_put [.ref a, .int i, .int v] T R L I (xD none T R L (xput I a n i v)) := by
  refine xCon.mk (xl := [some (.ref a), some (.int i), some (.int v)]) (by decide +kernel) (xle_r _) rfl (Nat.le_of_ble_eq_true rfl) rfl ?_
  refine xV_iload_n e_X2_put_0 rfl ?_
  refine xV_if_lt e_X2_put_1 (fun h1 => ?_) (fun h1 => ?_)
  · exact xV_return e_X2_put_14 rfl rfl (by first | exact ⟨rfl, rfl, rfl, by rw [xput, if_pos (by simp only [bIn, Bool.and_eq_true, decide_eq_true_eq]; exact ⟨i_nle h1, Int32.not_le.mp h7⟩)]⟩ | exact ⟨rfl, rfl, rfl, by rw [xput, if_neg (by simp only [bIn, Bool.and_eq_true, decide_eq_true_eq]; intro q; first | exact i_nlt h1 q.1 | exact i_nlt q.2 h7)]⟩)
  · refine xV_iload_n e_X2_put_4 rfl ?_
    refine xV_aload_n e_X2_put_5 rfl ?_
    refine xV_alenN e_X2_put_6 (xRow.of hs) ?_
    refine xV_icmp_ge e_X2_put_7 (fun h7 => ?_) (fun h7 => ?_)
    · exact xV_return e_X2_put_14 rfl rfl (by first | exact ⟨rfl, rfl, rfl, by rw [xput, if_pos (by simp only [bIn, Bool.and_eq_true, decide_eq_true_eq]; exact ⟨i_nle h1, Int32.not_le.mp h7⟩)]⟩ | exact ⟨rfl, rfl, rfl, by rw [xput, if_neg (by simp only [bIn, Bool.and_eq_true, decide_eq_true_eq]; intro q; first | exact i_nlt h1 q.1 | exact i_nlt q.2 h7)]⟩)
    · refine xV_aload_n e_X2_put_10 rfl ?_
      refine xV_iload_n e_X2_put_11 rfl ?_
      refine xV_iload_n e_X2_put_12 rfl ?_
      refine xV_iast e_X2_put_13 hs (bIn_vp hn (i_nle h1) (Int32.not_le.mp h7)) ?_
      exact xV_return e_X2_put_14 rfl rfl (by first | exact ⟨rfl, rfl, rfl, by rw [xput, if_pos (by simp only [bIn, Bool.and_eq_true, decide_eq_true_eq]; exact ⟨i_nle h1, Int32.not_le.mp h7⟩)]⟩ | exact ⟨rfl, rfl, rfl, by rw [xput, if_neg (by simp only [bIn, Bool.and_eq_true, decide_eq_true_eq]; intro q; first | exact i_nlt h1 q.1 | exact i_nlt q.2 h7)]⟩)
theorem C_X2_putN {a n k : Nat} {v : Int32} (hs : xSh G T a = (4, n)) (hk : k < n) (hn : n < 2 ^ 31) : xCon G Y_X2_put [.ref a, .int (nI k), .int v] T R L I (xD none T R L (xst I a k v)) := by
  have h := C_X2_put (R := R) (L := L) (I := I) (i := nI k) (v := v) hs hn
  rwa [xput_N hk hn] at h
theorem C_X2_put1 {h n k : Nat} {v : Int32} {f w1 w2 w3 w4 w5 : Nat → Int32} (hs : xSh G T (h + 1) = (4, n)) (hk : k < n) (hn : n < 2 ^ 31) : xCon G Y_X2_put [.ref (h + 1), .int (nI k), .int v] T R L (pm I h (f, w1, w2, w3, w4, w5)) (xD none T R L (pm I h (f, upd w1 k v, w2, w3, w4, w5))) := by
  have h := C_X2_putN (R := R) (L := L) (I := pm I h (f, w1, w2, w3, w4, w5)) (v := v) hs hk hn
  rwa [pm_st1] at h
theorem C_X2_put2 {h n k : Nat} {v : Int32} {f w1 w2 w3 w4 w5 : Nat → Int32} (hs : xSh G T (h + 2) = (4, n)) (hk : k < n) (hn : n < 2 ^ 31) : xCon G Y_X2_put [.ref (h + 2), .int (nI k), .int v] T R L (pm I h (f, w1, w2, w3, w4, w5)) (xD none T R L (pm I h (f, w1, upd w2 k v, w3, w4, w5))) := by
  have h := C_X2_putN (R := R) (L := L) (I := pm I h (f, w1, w2, w3, w4, w5)) (v := v) hs hk hn
  rwa [pm_st2] at h
theorem C_X2_put3 {h n k : Nat} {v : Int32} {f w1 w2 w3 w4 w5 : Nat → Int32} (hs : xSh G T (h + 3) = (4, n)) (hk : k < n) (hn : n < 2 ^ 31) : xCon G Y_X2_put [.ref (h + 3), .int (nI k), .int v] T R L (pm I h (f, w1, w2, w3, w4, w5)) (xD none T R L (pm I h (f, w1, w2, upd w3 k v, w4, w5))) := by
  have h := C_X2_putN (R := R) (L := L) (I := pm I h (f, w1, w2, w3, w4, w5)) (v := v) hs hk hn
  rwa [pm_st3] at h
theorem C_X2_put4 {h n k : Nat} {v : Int32} {f w1 w2 w3 w4 w5 : Nat → Int32} (hs : xSh G T (h + 4) = (4, n)) (hk : k < n) (hn : n < 2 ^ 31) : xCon G Y_X2_put [.ref (h + 4), .int (nI k), .int v] T R L (pm I h (f, w1, w2, w3, w4, w5)) (xD none T R L (pm I h (f, w1, w2, w3, upd w4 k v, w5))) := by
  have h := C_X2_putN (R := R) (L := L) (I := pm I h (f, w1, w2, w3, w4, w5)) (v := v) hs hk hn
  rwa [pm_st4] at h
theorem C_X2_put5 {h n k : Nat} {v : Int32} {f w1 w2 w3 w4 w5 : Nat → Int32} (hs : xSh G T (h + 5) = (4, n)) (hk : k < n) (hn : n < 2 ^ 31) : xCon G Y_X2_put [.ref (h + 5), .int (nI k), .int v] T R L (pm I h (f, w1, w2, w3, w4, w5)) (xD none T R L (pm I h (f, w1, w2, w3, w4, upd w5 k v))) := by
  have h := C_X2_putN (R := R) (L := L) (I := pm I h (f, w1, w2, w3, w4, w5)) (v := v) hs hk hn
  rwa [pm_st5] at h
def xus (a k : Int32) : Int32 := (a.toUInt32 >>> (k.toUInt32 &&& Int32.toUInt32 31)).toInt32
def xbc (a : Int32) : Int32 :=
  let b := a - (xus a (nI 1) &&& 1431655765)
  let c := (b &&& 858993459) + (xus b (nI 2) &&& 858993459)
  let d := (c + xus c (nI 4)) &&& 252645135
  let e := d + xus d (nI 8)
  let f := e + xus e (nI 16)
  f &&& nI 63
set_option maxHeartbeats 4000000 in
set_option maxRecDepth 100000 in
theorem C_J6_bitCount_0f7a4 {a : Int32} : xCon G Y_J6_bitCount_0f7a4 [.int a] T R L I (xD (some (.int (xbc a))) T R L I) := by
  refine xCon.mk (xl := [some (.int a)]) (by decide +kernel) (xle_r _) rfl (Nat.le_of_ble_eq_true rfl) rfl ?_
  refine xV_iload_n e_J6_bitCount_0f7a4_0 rfl ?_
  refine xV_iload_n e_J6_bitCount_0f7a4_1 rfl ?_
  refine xV_iconst (v := (nI 1)) e_J6_bitCount_0f7a4_2 (by decide) ?_
  refine xV_iushr e_J6_bitCount_0f7a4_3 ?_
  refine xV_ldcw e_J6_bitCount_0f7a4_4 k_J6_265 ?_
  refine xV_iand e_J6_bitCount_0f7a4_7 ?_
  refine xV_isub e_J6_bitCount_0f7a4_8 ?_
  refine xV_istore_n e_J6_bitCount_0f7a4_9 (Nat.le_of_ble_eq_true rfl) rfl ?_
  refine xV_iload_n e_J6_bitCount_0f7a4_10 rfl ?_
  refine xV_ldcw e_J6_bitCount_0f7a4_11 k_J6_266 ?_
  refine xV_iand e_J6_bitCount_0f7a4_14 ?_
  refine xV_iload_n e_J6_bitCount_0f7a4_15 rfl ?_
  refine xV_iconst (v := (nI 2)) e_J6_bitCount_0f7a4_16 (by decide) ?_
  refine xV_iushr e_J6_bitCount_0f7a4_17 ?_
  refine xV_ldcw e_J6_bitCount_0f7a4_18 k_J6_266 ?_
  refine xV_iand e_J6_bitCount_0f7a4_21 ?_
  refine xV_iadd e_J6_bitCount_0f7a4_22 ?_
  refine xV_istore_n e_J6_bitCount_0f7a4_23 (Nat.le_of_ble_eq_true rfl) rfl ?_
  refine xV_iload_n e_J6_bitCount_0f7a4_24 rfl ?_
  refine xV_iload_n e_J6_bitCount_0f7a4_25 rfl ?_
  refine xV_iconst (v := (nI 4)) e_J6_bitCount_0f7a4_26 (by decide) ?_
  refine xV_iushr e_J6_bitCount_0f7a4_27 ?_
  refine xV_iadd e_J6_bitCount_0f7a4_28 ?_
  refine xV_ldcw e_J6_bitCount_0f7a4_29 k_J6_267 ?_
  refine xV_iand e_J6_bitCount_0f7a4_32 ?_
  refine xV_istore_n e_J6_bitCount_0f7a4_33 (Nat.le_of_ble_eq_true rfl) rfl ?_
  refine xV_iload_n e_J6_bitCount_0f7a4_34 rfl ?_
  refine xV_iload_n e_J6_bitCount_0f7a4_35 rfl ?_
  refine xV_bipush (v := (nI 8)) e_J6_bitCount_0f7a4_36 (by decide) ?_
  refine xV_iushr e_J6_bitCount_0f7a4_38 ?_
  refine xV_iadd e_J6_bitCount_0f7a4_39 ?_
  refine xV_istore_n e_J6_bitCount_0f7a4_40 (Nat.le_of_ble_eq_true rfl) rfl ?_
  refine xV_iload_n e_J6_bitCount_0f7a4_41 rfl ?_
  refine xV_iload_n e_J6_bitCount_0f7a4_42 rfl ?_
  refine xV_bipush (v := (nI 16)) e_J6_bitCount_0f7a4_43 (by decide) ?_
  refine xV_iushr e_J6_bitCount_0f7a4_45 ?_
  refine xV_iadd e_J6_bitCount_0f7a4_46 ?_
  refine xV_istore_n e_J6_bitCount_0f7a4_47 (Nat.le_of_ble_eq_true rfl) rfl ?_
  refine xV_iload_n e_J6_bitCount_0f7a4_48 rfl ?_
  refine xV_bipush (v := (nI 63)) e_J6_bitCount_0f7a4_49 (by decide) ?_
  refine xV_iand e_J6_bitCount_0f7a4_51 ?_
  exact xV_ireturn e_J6_bitCount_0f7a4_52 rfl rfl ⟨rfl, rfl, rfl, rfl⟩
end XLEAF
