/-! THE TEXT ON BOTH SIDES: the class's signs one by one -/
section XRD
theorem hs_tb {k i : Nat} (h : i < 32) : hs (nI k) (nI i) = k.testBit i := by
  rw [hs_bt h]
  unfold bt
  show (BitVec.ofNat 32 k).getLsbD i = _
  rw [BitVec.getLsbD_ofNat, decide_eq_true h, Bool.true_and]
theorem xbc_M : ∀ a, a < 64 → ∀ d, d < 64 → xbc (nI (64 * a + d)) = nI (sm (fun i => if (64 * a + d).testBit i = true then 1 else 0) 12) := by decide +kernel
theorem xbc_N {k : Nat} (h : k < 4096) : xbc (nI k) = nI (sm (fun i => if k.testBit i = true then 1 else 0) 12) := by
  have q := xbc_M (k / 64) (by omega) (k % 64) (Nat.mod_lt _ (by decide))
  rwa [Nat.div_add_mod] at q
def cnt (x : Int32) : Nat := sm (fun i => if hs x (nI i) = true then 1 else 0) 12
theorem tb4095 : ∀ i, i < 12 → Nat.testBit 4095 i = true := by decide
theorem lo12 {x : Int32} (h : ∀ k, 12 ≤ k → k < 32 → hs x (nI k) = false) : ∃ k, k < 4096 ∧ x = nI k := by
  obtain ⟨j, hj, e⟩ := pk_andE x (m := nI 4095) 12 (by decide)
  refine ⟨j, hj, ?_⟩
  rw [← e]
  refine hs_ext fun i hi => ?_
  rw [hs_and hi, hs_tb (k := 4095) hi]
  by_cases c : i < 12
  · rw [tb4095 i c, Bool.and_true]
  · rw [h i (by omega) hi, Bool.false_and]
theorem xbc_cnt {x : Int32} (h : ∀ k, 12 ≤ k → k < 32 → hs x (nI k) = false) : xbc x = nI (cnt x) := by
  obtain ⟨k, hk, rfl⟩ := lo12 h
  rw [xbc_N hk]
  unfold cnt
  congr 1
  exact sm_ext 12 (fun i hi => by rw [hs_tb (by omega)])
theorem cnt_or {x : Int32} {c : Nat} (hc : c < 12) (h : hs x (nI c) = false) : cnt (x ||| (nI 1 <<< (nI c &&& 31))) = cnt x + 1 := by
  unfold cnt
  have e : sm (fun i => if hs (x ||| (nI 1 <<< (nI c &&& 31))) (nI i) = true then 1 else 0) 12 = sm (fun i => (if hs x (nI i) = true then 1 else 0) + 1 * (if c = i then 1 else 0)) 12 := sm_ext 12 (fun i hi => by
    rw [hs_or (by omega), hs_one (by omega) (by omega)]
    by_cases e : i = c
    · subst e; rw [h]; simp
    · rw [decide_eq_false e, Bool.or_false, if_neg (c := c = i) (fun z => e z.symm), Nat.mul_zero, Nat.add_zero])
  have d := sm_dl (f := fun _ => 1) (a := c) (w := 1) 12
  rw [if_pos hc] at d
  rw [e, sm_add]
  exact congrArg _ d
theorem cnt_le (x : Int32) : cnt x ≤ 12 := by
  have q := sm_le (f := fun i => if hs x (nI i) = true then 1 else 0) (B := 1) 12 (fun k _ => by split <;> omega)
  unfold cnt
  omega
def Sq (X : xRd) (d t pl : Int32) (S : xS) : Prop := X.1 1 = d ∧ X.1 2 = t ∧ X.1 3 = pl ∧ X.2 = S
def okF (txt : Nat → Int32) (len : Nat) (lo hi : Int32) (p : Nat) : Bool := decide (p < len) && (decide (lo ≤ txt p - nI 48) && decide (txt p - nI 48 ≤ hi))
theorem rL_no {txt : Nat → Int32} {len p : Nat} {X : xRd} (hp : p ≤ len) (hd : ¬ X.1 1 = nI 2) (h : p < len → (rAcc (txt p) X).1 = false) : (rLoop txt (len - p) p X).1 = nI p := by
  by_cases e : p < len
  · rw [rLoop_f e (h e)]
  · obtain rfl : p = len := by omega
    rw [Nat.sub_self]
    show (if X.1 1 = nI 2 then (-9) else nI p) = nI p
    exact if_neg hd
theorem rL_yes {txt : Nat → Int32} {len p : Nat} {X X' : xRd} (e : p < len) (h : rAcc (txt p) X = (true, X')) : rLoop txt (len - p) p X = rLoop txt (len - (p + 1)) (p + 1) X' := by
  rw [rLoop_t e (by rw [h]), h]
theorem rAcc_0 {X : xRd} {c : Int32} (h : X.1 1 = nI 0) : rAcc c X = (if c = nI 77 then (true, rOn (nI 1) X) else (false, X)) := by
  unfold rAcc
  rw [if_pos h]
theorem rAcc_1 {X : xRd} {c : Int32} (h : X.1 1 = nI 1) : rAcc c X = rHold c X := by
  unfold rAcc
  rw [if_neg (by rw [h]; decide)]; rw [if_pos h]
theorem rAcc_2 {X : xRd} {c : Int32} (h : X.1 1 = nI 2) : rAcc c X = rPart c X := by
  unfold rAcc
  rw [if_neg (by rw [h]; decide)]; rw [if_neg (by rw [h]; decide)]; rw [if_pos h]
theorem rAcc_3 {X : xRd} {c : Int32} (h : X.1 1 = nI 3) : rAcc c X = rThen (nI 4) (rTens (c - nI 48) (X.1 2) X) := by
  unfold rAcc
  rw [if_neg (by rw [h]; decide)]; rw [if_neg (by rw [h]; decide)]; rw [if_neg (by rw [h]; decide)]; rw [if_pos h]
theorem rAcc_4 {X : xRd} {c : Int32} (h : X.1 1 = nI 4) : rAcc c X = (if (rOnes (c - nI 48) (X.1 2) X).1 = true then rTell (rOnes (c - nI 48) (X.1 2) X).2 else rOnes (c - nI 48) (X.1 2) X) := by
  unfold rAcc
  rw [if_neg (by rw [h]; decide)]; rw [if_neg (by rw [h]; decide)]; rw [if_neg (by rw [h]; decide)]; rw [if_neg (by rw [h]; decide)]; rw [if_pos h]
theorem rAcc_5 {X : xRd} {c : Int32} (h : X.1 1 = nI 5) : rAcc c X = rThen (nI 6) (rAm1 (c - nI 48) X) := by
  unfold rAcc
  rw [if_neg (by rw [h]; decide)]; rw [if_neg (by rw [h]; decide)]; rw [if_neg (by rw [h]; decide)]; rw [if_neg (by rw [h]; decide)]; rw [if_neg (by rw [h]; decide)]; rw [if_pos h]
theorem rAcc_6 {X : xRd} {c : Int32} (h : X.1 1 = nI 6) : rAcc c X = rThen (nI 7) (rAm2 (c - nI 48) X) := by
  unfold rAcc
  rw [if_neg (by rw [h]; decide)]; rw [if_neg (by rw [h]; decide)]; rw [if_neg (by rw [h]; decide)]; rw [if_neg (by rw [h]; decide)]; rw [if_neg (by rw [h]; decide)]; rw [if_neg (by rw [h]; decide)]; rw [if_pos h]
theorem rAcc_7 {X : xRd} {c : Int32} (h : X.1 1 = nI 7) : rAcc c X = rThen (nI 2) (rAm3 (c - nI 48) X) := by
  unfold rAcc
  rw [if_neg (by rw [h]; decide)]; rw [if_neg (by rw [h]; decide)]; rw [if_neg (by rw [h]; decide)]; rw [if_neg (by rw [h]; decide)]; rw [if_neg (by rw [h]; decide)]; rw [if_neg (by rw [h]; decide)]; rw [if_neg (by rw [h]; decide)]; rw [if_pos h]
theorem rAcc_8 {X : xRd} {c : Int32} (h : X.1 1 = nI 8) : rAcc c X = rThen (nI 9) (rTens (c - nI 48) (nI 0) X) := by
  unfold rAcc
  rw [if_neg (by rw [h]; decide)]; rw [if_neg (by rw [h]; decide)]; rw [if_neg (by rw [h]; decide)]; rw [if_neg (by rw [h]; decide)]; rw [if_neg (by rw [h]; decide)]; rw [if_neg (by rw [h]; decide)]; rw [if_neg (by rw [h]; decide)]; rw [if_neg (by rw [h]; decide)]; rw [if_pos h]
theorem rAcc_9 {X : xRd} {c : Int32} (h : X.1 1 = nI 9) : rAcc c X = rThen (nI 10) (rOnes (c - nI 48) (nI 0) X) := by
  unfold rAcc
  rw [if_neg (by rw [h]; decide)]; rw [if_neg (by rw [h]; decide)]; rw [if_neg (by rw [h]; decide)]; rw [if_neg (by rw [h]; decide)]; rw [if_neg (by rw [h]; decide)]; rw [if_neg (by rw [h]; decide)]; rw [if_neg (by rw [h]; decide)]; rw [if_neg (by rw [h]; decide)]; rw [if_neg (by rw [h]; decide)]; rw [if_pos h]
theorem rAcc_10 {X : xRd} {c : Int32} (h : X.1 1 = nI 10) : rAcc c X = rSect (c - nI 48) X := by
  unfold rAcc
  rw [if_neg (by rw [h]; decide)]; rw [if_neg (by rw [h]; decide)]; rw [if_neg (by rw [h]; decide)]; rw [if_neg (by rw [h]; decide)]; rw [if_neg (by rw [h]; decide)]; rw [if_neg (by rw [h]; decide)]; rw [if_neg (by rw [h]; decide)]; rw [if_neg (by rw [h]; decide)]; rw [if_neg (by rw [h]; decide)]; rw [if_neg (by rw [h]; decide)]; rw [if_pos h]
theorem bAm_ok (a : Int32) : bAm a = (decide (nI 0 ≤ a) && decide (a ≤ nI 9)) := by
  unfold bAm
  congr 1
  rw [nI_0]
  by_cases z : a < 0
  · rw [decide_eq_true z, decide_eq_false (Int32.not_le.mpr z)]; rfl
  · rw [decide_eq_false z, decide_eq_true (Int32.not_lt.mp z)]; rfl
theorem okF_d {txt : Nat → Int32} {len p : Nat} {lo hi : Int32} (h : okF txt len lo hi p = true) : p < len ∧ (decide (lo ≤ txt p - nI 48) && decide (txt p - nI 48 ≤ hi)) = true := by
  unfold okF at h
  rw [Bool.and_eq_true] at h
  exact ⟨of_decide_eq_true h.1, h.2⟩
theorem okF_n {txt : Nat → Int32} {len p : Nat} {lo hi : Int32} (h : okF txt len lo hi p = false) (e : p < len) : (decide (lo ≤ txt p - nI 48) && decide (txt p - nI 48 ≤ hi)) = false := by
  unfold okF at h
  rw [decide_eq_true e, Bool.true_and] at h
  exact h
theorem rd_am1 {txt : Nat → Int32} {len p c : Nat} {X : xRd} {told : Int32} {S : xS} (hp : p ≤ len) (hc : c < 12) (h : Sq X (nI 5) told (nI c) S) :
    (okF txt len (nI 0) (nI 9) p = false → (rLoop txt (len - p) p X).1 = nI p) ∧ (okF txt len (nI 0) (nI 9) p = true → ∃ X', Sq X' (nI 6) told (nI c) (S.1, upd (S.2.1) c (txt p - nI 48), S.2.2) ∧ rLoop txt (len - p) p X = rLoop txt (len - (p + 1)) (p + 1) X') := by
  obtain ⟨h1, h2, h3, rfl⟩ := h
  refine ⟨fun ok => rL_no hp (by rw [h1]; decide) (fun e => ?_), fun ok => ?_⟩
  · have am : rAm1 (txt p - nI 48) X = (false, X) := if_neg (bl_f (by rw [bAm_ok]; exact okF_n ok e))
    rw [rAcc_5 h1, am]; rfl
  · obtain ⟨e, ok2⟩ := okF_d ok
    have am : rAm1 (txt p - nI 48) X = (true, (X.1, (X.2.1, upd (X.2.2.1) c (txt p - nI 48), X.2.2.2))) := by rw [rAm1, if_pos (by rw [bAm_ok]; exact ok2), h3, upB_N hc (by decide)]
    exact ⟨rOn (nI 6) (X.1, (X.2.1, upd (X.2.2.1) c (txt p - nI 48), X.2.2.2)), (by refine ⟨?_, ?_, ?_, rfl⟩ <;> simp [rOn, upd, h2, h3]), rL_yes e (by rw [rAcc_5 h1, am]; rfl)⟩
theorem rd_am2 {txt : Nat → Int32} {len p c : Nat} {X : xRd} {told : Int32} {S : xS} (hp : p ≤ len) (hc : c < 12) (h : Sq X (nI 6) told (nI c) S) :
    (okF txt len (nI 0) (nI 9) p = false → (rLoop txt (len - p) p X).1 = nI p) ∧ (okF txt len (nI 0) (nI 9) p = true → ∃ X', Sq X' (nI 7) told (nI c) (S.1, S.2.1, upd (S.2.2.1) c (txt p - nI 48), S.2.2.2) ∧ rLoop txt (len - p) p X = rLoop txt (len - (p + 1)) (p + 1) X') := by
  obtain ⟨h1, h2, h3, rfl⟩ := h
  refine ⟨fun ok => rL_no hp (by rw [h1]; decide) (fun e => ?_), fun ok => ?_⟩
  · have am : rAm2 (txt p - nI 48) X = (false, X) := if_neg (bl_f (by rw [bAm_ok]; exact okF_n ok e))
    rw [rAcc_6 h1, am]; rfl
  · obtain ⟨e, ok2⟩ := okF_d ok
    have am : rAm2 (txt p - nI 48) X = (true, (X.1, (X.2.1, X.2.2.1, upd (X.2.2.2.1) c (txt p - nI 48), X.2.2.2.2))) := by rw [rAm2, if_pos (by rw [bAm_ok]; exact ok2), h3, upB_N hc (by decide)]
    exact ⟨rOn (nI 7) (X.1, (X.2.1, X.2.2.1, upd (X.2.2.2.1) c (txt p - nI 48), X.2.2.2.2)), (by refine ⟨?_, ?_, ?_, rfl⟩ <;> simp [rOn, upd, h2, h3]), rL_yes e (by rw [rAcc_6 h1, am]; rfl)⟩
theorem rd_am3 {txt : Nat → Int32} {len p c : Nat} {X : xRd} {told : Int32} {S : xS} (hp : p ≤ len) (hc : c < 12) (h : Sq X (nI 7) told (nI c) S) :
    (okF txt len (nI 0) (nI 9) p = false → (rLoop txt (len - p) p X).1 = nI p) ∧ (okF txt len (nI 0) (nI 9) p = true → ∃ X', Sq X' (nI 2) told (nI c) (S.1, S.2.1, S.2.2.1, upd (S.2.2.2.1) c (txt p - nI 48), S.2.2.2.2) ∧ rLoop txt (len - p) p X = rLoop txt (len - (p + 1)) (p + 1) X') := by
  obtain ⟨h1, h2, h3, rfl⟩ := h
  refine ⟨fun ok => rL_no hp (by rw [h1]; decide) (fun e => ?_), fun ok => ?_⟩
  · have am : rAm3 (txt p - nI 48) X = (false, X) := if_neg (bl_f (by rw [bAm_ok]; exact okF_n ok e))
    rw [rAcc_7 h1, am]; rfl
  · obtain ⟨e, ok2⟩ := okF_d ok
    have am : rAm3 (txt p - nI 48) X = (true, (X.1, (X.2.1, X.2.2.1, X.2.2.2.1, upd (X.2.2.2.2.1) c (txt p - nI 48), X.2.2.2.2.2))) := by rw [rAm3, if_pos (by rw [bAm_ok]; exact ok2), h3, upB_N hc (by decide)]
    exact ⟨rOn (nI 2) (X.1, (X.2.1, X.2.2.1, X.2.2.2.1, upd (X.2.2.2.2.1) c (txt p - nI 48), X.2.2.2.2.2)), (by refine ⟨?_, ?_, ?_, rfl⟩ <;> simp [rOn, upd, h2, h3]), rL_yes e (by rw [rAcc_7 h1, am]; rfl)⟩
def tnM (t : Int32) : Int32 := if t = 0 then nI 1023 else nI 3072
def okT (txt : Nat → Int32) (len : Nat) (but : Int32) (p : Nat) : Bool := decide (p < len) && ((decide (nI 0 ≤ txt p - nI 48) && decide (txt p - nI 48 ≤ nI 1)) && !decide (but &&& tnM (txt p - nI 48) = tnM (txt p - nI 48)))
theorem tens_ok (t but : Int32) : decide (¬ tCells t &&& (but ^^^ (-1)) = 0) = ((decide (nI 0 ≤ t) && decide (t ≤ nI 1)) && !decide (but &&& tnM t = tnM t)) := by
  have key : ∀ M : Int32, (M &&& (but ^^^ (-1)) = 0 ↔ but &&& M = M) := fun M => by
    constructor
    · intro h
      refine hs_ext fun k hk => ?_
      have q : hs (M &&& (but ^^^ (-1))) (nI k) = false := by rw [h, hs_zz hk]
      rw [hs_and hk, hs_not hk] at q
      rw [hs_and hk]
      revert q
      cases hs M (nI k) <;> cases hs but (nI k) <;> simp
    · intro h
      refine hs_ext fun k hk => ?_
      have q : hs (but &&& M) (nI k) = hs M (nI k) := by rw [h]
      rw [hs_and hk] at q
      rw [hs_and hk, hs_not hk, hs_zz hk]
      revert q
      cases hs M (nI k) <;> cases hs but (nI k) <;> simp
  cases c : (decide (nI 0 ≤ t) && decide (t ≤ nI 1))
  · have t0 : ¬ t = 0 := fun z => by rw [z] at c; revert c; decide
    have t1 : ¬ t = nI 1 := fun z => by rw [z] at c; revert c; decide
    have e : tCells t = nI 0 := by unfold tCells; rw [if_neg t0, if_neg t1]
    rw [e, Bool.false_and]
    exact decide_eq_false (fun z => z (hs_ext fun k hk => by rw [hs_and hk, hs_z hk, hs_zz hk]; rfl))
  · rw [Bool.true_and]
    obtain ⟨j, j1, j2, rfl⟩ := bL_j (by decide) (by decide) c
    have e : tCells (nI j) = tnM (nI j) := by
      have : j = 0 ∨ j = 1 := by omega
      rcases this with rfl | rfl <;> decide
    rw [e]
    by_cases z : but &&& tnM (nI j) = tnM (nI j)
    · rw [decide_eq_true z, decide_eq_false (fun y => y ((key _).mpr z))]; rfl
    · rw [decide_eq_false z, decide_eq_true (show ¬ tnM (nI j) &&& (but ^^^ (-1)) = 0 from fun y => z ((key _).mp y))]; rfl
theorem rd_ten3 {txt : Nat → Int32} {len p : Nat} {X : xRd} {told pl : Int32} {S : xS} (hp : p ≤ len) (h : Sq X (nI 3) told pl S) :
    (okT txt len told p = false → (rLoop txt (len - p) p X).1 = nI p) ∧ (okT txt len told p = true → ∃ X', Sq X' (nI 4) told (nI 10 * (txt p - nI 48)) S ∧ rLoop txt (len - p) p X = rLoop txt (len - (p + 1)) (p + 1) X') := by
  obtain ⟨h1, h2, h3, rfl⟩ := h
  unfold okT
  rw [← tens_ok]
  refine ⟨fun ok => rL_no hp (by rw [h1]; decide) (fun e => ?_), fun ok => ?_⟩
  · rw [decide_eq_true e, Bool.true_and] at ok
    rw [rAcc_3 h1, h2]
    unfold rThen rTens
    rw [ok]; rfl
  · rw [Bool.and_eq_true] at ok
    obtain ⟨e, ok2⟩ := ok
    refine ⟨rOn (nI 4) (upd X.1 3 (nI 10 * (txt p - nI 48)), X.2), (by refine ⟨?_, ?_, ?_, rfl⟩ <;> simp [rOn, upd, h2, h3]), rL_yes (of_decide_eq_true e) ?_⟩
    rw [rAcc_3 h1, h2]
    unfold rThen rTens
    rw [ok2]; rfl
theorem rd_ten8 {txt : Nat → Int32} {len p : Nat} {X : xRd} {told pl : Int32} {S : xS} (hp : p ≤ len) (h : Sq X (nI 8) told pl S) :
    (okT txt len (nI 0) p = false → (rLoop txt (len - p) p X).1 = nI p) ∧ (okT txt len (nI 0) p = true → ∃ X', Sq X' (nI 9) told (nI 10 * (txt p - nI 48)) S ∧ rLoop txt (len - p) p X = rLoop txt (len - (p + 1)) (p + 1) X') := by
  obtain ⟨h1, h2, h3, rfl⟩ := h
  unfold okT
  rw [← tens_ok]
  refine ⟨fun ok => rL_no hp (by rw [h1]; decide) (fun e => ?_), fun ok => ?_⟩
  · rw [decide_eq_true e, Bool.true_and] at ok
    rw [rAcc_8 h1]
    unfold rThen rTens
    rw [ok]; rfl
  · rw [Bool.and_eq_true] at ok
    obtain ⟨e, ok2⟩ := ok
    refine ⟨rOn (nI 9) (upd X.1 3 (nI 10 * (txt p - nI 48)), X.2), (by refine ⟨?_, ?_, ?_, rfl⟩ <;> simp [rOn, upd, h2, h3]), rL_yes (of_decide_eq_true e) ?_⟩
    rw [rAcc_8 h1]
    unfold rThen rTens
    rw [ok2]; rfl
def okO (txt : Nat → Int32) (len : Nat) (but t : Int32) (p : Nat) : Bool := decide (p < len) && ((decide (nI 0 ≤ txt p - nI 48) && decide (txt p - nI 48 ≤ (if t = 0 then nI 9 else nI 1))) && !hs but (nI 10 * t + (txt p - nI 48)))
theorem one_dec : ∀ j, j < 10 → ∀ q, q < 2 → bCell (nI 10 * nI q + nI j) = decide (nI j ≤ (if nI q = 0 then nI 9 else nI 1)) := by decide +kernel
theorem ones_ok {t on but : Int32} {q : Nat} (hq : q < 2) (ht : t = nI q) : (if on < 0 then false else if nI 9 < on then false else bCell (nI 10 * t + on) && !hs but (nI 10 * t + on)) = ((decide (nI 0 ≤ on) && decide (on ≤ (if t = 0 then nI 9 else nI 1))) && !hs but (nI 10 * t + on)) := by
  by_cases z : on < 0
  · rw [if_pos z, nI_0, decide_eq_false (Int32.not_le.mpr z)]; rfl
  · rw [if_neg z]
    by_cases y : nI 9 < on
    · have n9 : ¬ on ≤ (if t = 0 then nI 9 else nI 1) := fun w => by
        have w2 : on ≤ nI 9 := Int32.le_trans w (by split <;> decide)
        exact absurd w2 (Int32.not_le.mpr y)
      rw [if_pos y, decide_eq_false n9]; simp
    · rw [if_neg y]
      obtain ⟨j, j2, rfl⟩ := nI_of2 (n := 9) (nI_toInt (by decide)) z (Int32.not_lt.mp y)
      rw [ht, one_dec j (by omega) q hq, decide_eq_true (nI_le (Nat.zero_le _) (by omega)), Bool.true_and]
theorem rd_one4 {txt : Nat → Int32} {len p q : Nat} {X : xRd} {told t : Int32} {S : xS} (hp : p ≤ len) (hq : q < 2) (ht : t = nI q) (h : Sq X (nI 4) told (nI 10 * t) S) :
    (okO txt len told t p = false → (rLoop txt (len - p) p X).1 = nI p) ∧ (okO txt len told t p = true → ∃ X', Sq X' (nI 5) (told ||| (nI 1 <<< ((nI 10 * t + (txt p - nI 48)) &&& 31))) (nI 10 * t + (txt p - nI 48)) S ∧ rLoop txt (len - p) p X = rLoop txt (len - (p + 1)) (p + 1) X') := by
  obtain ⟨h1, h2, h3, rfl⟩ := h
  have ro : ∀ on : Int32, (rOnes on told X) = (((decide (nI 0 ≤ on) && decide (on ≤ (if t = 0 then nI 9 else nI 1))) && !hs told (nI 10 * t + on)), (upd X.1 3 (X.1 3 + on), X.2)) := fun on => by
    unfold rOnes
    rw [← ones_ok hq ht, h3]
  unfold okO
  refine ⟨fun ok => rL_no hp (by rw [h1]; decide) (fun e => ?_), fun ok => ?_⟩
  · rw [decide_eq_true e, Bool.true_and] at ok
    rw [rAcc_4 h1, h2, ro, ok]; rfl
  · rw [Bool.and_eq_true] at ok
    obtain ⟨e, ok2⟩ := ok
    have ra : rAcc (txt p) X = (true, (upd (upd (upd X.1 3 (nI 10 * t + (txt p - nI 48))) 2 (told ||| (nI 1 <<< ((nI 10 * t + (txt p - nI 48)) &&& 31)))) 1 (nI 5), X.2)) := by
      rw [rAcc_4 h1, h2, ro, ok2]
      show (if true = true then rTell (upd X.1 3 (X.1 3 + (txt p - nI 48)), X.2) else _) = _
      have u1 : upd X.1 3 (X.1 3 + (txt p - nI 48)) 2 = told := (upd_n (by omega)).trans h2
      have u2 : upd X.1 3 (X.1 3 + (txt p - nI 48)) 3 = nI 10 * t + (txt p - nI 48) := upd_s.trans (by rw [h3])
      rw [if_pos rfl]
      unfold rTell
      dsimp only
      rw [u1, u2, h3]
    exact ⟨(upd (upd (upd X.1 3 (nI 10 * t + (txt p - nI 48))) 2 (told ||| (nI 1 <<< ((nI 10 * t + (txt p - nI 48)) &&& 31)))) 1 (nI 5), X.2), (by refine ⟨?_, ?_, ?_, rfl⟩ <;> simp [rOn, upd, h2, h3]), rL_yes (of_decide_eq_true e) ra⟩
theorem rd_one9 {txt : Nat → Int32} {len p q : Nat} {X : xRd} {told t : Int32} {S : xS} (hp : p ≤ len) (hq : q < 2) (ht : t = nI q) (h : Sq X (nI 9) told (nI 10 * t) S) :
    (okO txt len (nI 0) t p = false → (rLoop txt (len - p) p X).1 = nI p) ∧ (okO txt len (nI 0) t p = true → ∃ X', Sq X' (nI 10) told (nI 10 * t + (txt p - nI 48)) S ∧ rLoop txt (len - p) p X = rLoop txt (len - (p + 1)) (p + 1) X') := by
  obtain ⟨h1, h2, h3, rfl⟩ := h
  have ro : ∀ on : Int32, (rOnes on (nI 0) X) = (((decide (nI 0 ≤ on) && decide (on ≤ (if t = 0 then nI 9 else nI 1))) && !hs (nI 0) (nI 10 * t + on)), (upd X.1 3 (X.1 3 + on), X.2)) := fun on => by
    unfold rOnes
    rw [← ones_ok hq ht, h3]
  unfold okO
  refine ⟨fun ok => rL_no hp (by rw [h1]; decide) (fun e => ?_), fun ok => ?_⟩
  · rw [decide_eq_true e, Bool.true_and] at ok
    rw [rAcc_9 h1, ro, ok]; rfl
  · rw [Bool.and_eq_true] at ok
    obtain ⟨e, ok2⟩ := ok
    have ra : rAcc (txt p) X = (true, (rOn (nI 10) (upd X.1 3 (nI 10 * t + (txt p - nI 48)), X.2))) := by
      rw [rAcc_9 h1, ro, ok2, h3]; rfl
    exact ⟨(rOn (nI 10) (upd X.1 3 (nI 10 * t + (txt p - nI 48)), X.2)), (by refine ⟨?_, ?_, ?_, rfl⟩ <;> simp [rOn, upd, h2, h3]), rL_yes (of_decide_eq_true e) ra⟩
/-- a monk told -/
def mkS (S : xS) (s c : Int32) : xS := (upd (upd S.1 7 (S.1 7 ||| (s <<< (S.1 6 &&& 31)))) 6 (S.1 6 + nI 1), S.2.1, S.2.2.1, S.2.2.2.1, S.2.2.2.2.1, upB 4 S.2.2.2.2.2 (S.1 6) c)
theorem rd_sect {txt : Nat → Int32} {len p : Nat} {X : xRd} {told c : Int32} {S : xS} (hp : p ≤ len) (h : Sq X (nI 10) told c S) :
    (okF txt len (nI 0) (nI 1) p = false → (rLoop txt (len - p) p X).1 = nI p) ∧ (okF txt len (nI 0) (nI 1) p = true → ∃ X', Sq X' (nI 2) told c (mkS S (txt p - nI 48) c) ∧ rLoop txt (len - p) p X = rLoop txt (len - (p + 1)) (p + 1) X') := by
  obtain ⟨h1, h2, h3, rfl⟩ := h
  have key : ∀ s : Int32, (s = 0 ∨ s = nI 1) ↔ (decide (nI 0 ≤ s) && decide (s ≤ nI 1)) = true := fun s => by
    constructor
    · rintro (rfl | rfl) <;> decide
    · intro z
      obtain ⟨j, j1, j2, rfl⟩ := bL_j (by decide) (by decide) z
      have : j = 0 ∨ j = 1 := by omega
      rcases this with rfl | rfl
      · exact Or.inl rfl
      · exact Or.inr rfl
  refine ⟨fun ok => rL_no hp (by rw [h1]; decide) (fun e => ?_), fun ok => ?_⟩
  · rw [rAcc_10 h1, rSect, if_neg (fun z => bl_f (okF_n ok e) ((key _).mp z))]
  · obtain ⟨e, ok2⟩ := okF_d ok
    refine ⟨(upd X.1 1 (nI 2), mkS X.2 (txt p - nI 48) c), (by refine ⟨?_, ?_, ?_, rfl⟩ <;> simp [rOn, upd, h2, h3]), rL_yes e ?_⟩
    rw [rAcc_10 h1, rSect, if_pos ((key _).mpr ok2), h3]
    rfl
theorem rd_head {txt : Nat → Int32} {len : Nat} {X : xRd} {told pl : Int32} {S : xS} (h : Sq X (nI 0) told pl S) :
    (len = 0 ∨ ¬ txt 0 = nI 77 → (rLoop txt len 0 X).1 = nI 0) ∧ (0 < len → txt 0 = nI 77 → ∃ X', Sq X' (nI 1) told pl S ∧ rLoop txt len 0 X = rLoop txt (len - 1) 1 X') := by
  obtain ⟨h1, h2, h3, rfl⟩ := h
  refine ⟨fun z => ?_, fun e z => ?_⟩
  · have q := rL_no (txt := txt) (len := len) (p := 0) (X := X) (Nat.zero_le _) (by rw [h1]; decide) (fun e => by
      rw [rAcc_0 h1, if_neg (z.resolve_left (by omega))])
    exact q
  · have q := rL_yes (txt := txt) (len := len) (p := 0) (X := X) (X' := rOn (nI 1) X) e (by rw [rAcc_0 h1, if_pos z])
    exact ⟨rOn (nI 1) X, (by refine ⟨?_, ?_, ?_, rfl⟩ <;> simp [rOn, upd, h2, h3]), q⟩
theorem hold_key : ∀ q, q < 256 → (decide (nI 1 ≤ nI q - nI 48) && decide (nI q - nI 48 ≤ nI 9)) = (!decide (nI q < nI 49) && decide (nI q ≤ nI 57)) := by decide +kernel
theorem rd_hold {txt : Nat → Int32} {len p : Nat} {X : xRd} {told pl : Int32} {S : xS} (hp : p ≤ len) (htx : ∀ j, j < len → ∃ q, q < 256 ∧ txt j = nI q) (h : Sq X (nI 1) told pl S) :
    (okF txt len (nI 1) (nI 9) p = false → (rLoop txt (len - p) p X).1 = nI p) ∧ (okF txt len (nI 1) (nI 9) p = true → ∃ X', Sq X' (nI 2) told pl (upd S.1 5 (txt p - nI 48), S.2) ∧ rLoop txt (len - p) p X = rLoop txt (len - (p + 1)) (p + 1) X') := by
  obtain ⟨h1, h2, h3, rfl⟩ := h
  refine ⟨fun ok => rL_no hp (by rw [h1]; decide) (fun e => ?_), fun ok => ?_⟩
  · have k := okF_n ok e
    obtain ⟨q, hq, eq⟩ := htx p e
    rw [eq, hold_key q hq] at k
    rw [rAcc_1 h1, rHold, eq]
    by_cases z : nI q < nI 49
    · rw [if_pos z]
    · rw [if_neg z, if_neg]
      intro y
      rw [decide_eq_false z, decide_eq_true y] at k
      cases k
  · obtain ⟨e, ok2⟩ := okF_d ok
    obtain ⟨q, hq, eq⟩ := htx p e
    have k := ok2
    rw [eq, hold_key q hq] at k
    simp only [Bool.and_eq_true, Bool.not_eq_true', decide_eq_false_iff_not, decide_eq_true_eq] at k
    refine ⟨(upd X.1 1 (nI 2), (upd X.2.1 5 (txt p - nI 48), X.2.2)), (by refine ⟨?_, ?_, ?_, rfl⟩ <;> simp [rOn, upd, h2, h3]), rL_yes e ?_⟩
    rw [rAcc_1 h1, rHold, eq, if_neg k.1, if_pos k.2]
/-- a part's first sign -/
theorem rd_part {txt : Nat → Int32} {len p : Nat} {X : xRd} {told pl : Int32} {S : xS} (e : p < len) (h : Sq X (nI 2) told pl S) :
    (txt p = nI 67 → ¬ nI 8 ≤ xbc told → ∃ X', Sq X' (nI 3) told pl S ∧ rLoop txt (len - p) p X = rLoop txt (len - (p + 1)) (p + 1) X') ∧
    (¬ (txt p = nI 67 ∧ ¬ nI 8 ≤ xbc told) → txt p = nI 75 → ¬ nI 4 ≤ S.1 6 → ∃ X', Sq X' (nI 8) told pl S ∧ rLoop txt (len - p) p X = rLoop txt (len - (p + 1)) (p + 1) X') ∧
    (¬ (txt p = nI 67 ∧ ¬ nI 8 ≤ xbc told) → ¬ (txt p = nI 75 ∧ ¬ nI 4 ≤ S.1 6) → (rLoop txt (len - p) p X).1 = nI p) := by
  obtain ⟨h1, h2, h3, rfl⟩ := h
  refine ⟨fun a d => ?_, fun a d f => ?_, fun a d => ?_⟩
  · exact ⟨rOn (nI 3) X, (by refine ⟨?_, ?_, ?_, rfl⟩ <;> simp [rOn, upd, h2, h3]), rL_yes e (by rw [rAcc_2 h1, rPart, h2, if_pos ⟨a, d⟩])⟩
  · exact ⟨rOn (nI 8) X, (by refine ⟨?_, ?_, ?_, rfl⟩ <;> simp [rOn, upd, h2, h3]), rL_yes e (by rw [rAcc_2 h1, rPart, h2, if_neg a, if_pos ⟨d, f⟩])⟩
  · rw [rLoop_f e (by rw [rAcc_2 h1, rPart, h2, if_neg a, if_neg d])]
end XRD
