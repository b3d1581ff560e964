/-! THE MODEL: small methods -/
section XMA
variable {G : xG} {T : xT} {R : xR} {L : xL} {I : xI}
def bL (v a b : Int64) : Bool := decide (a ≤ v) && decide (v ≤ b)
/-- is between, on ints -/
def bI (v a b : Int32) : Bool := decide (a ≤ v) && decide (v ≤ b)
theorem toL_le {v a : Int32} : a.toInt64 ≤ v.toInt64 ↔ a ≤ v := by rw [Int64.le_iff_toInt_le, Int32.le_iff_toInt_le, Int32.toInt_toInt64, Int32.toInt_toInt64]
theorem bL_I {v a b : Int32} : bL v.toInt64 a.toInt64 b.toInt64 = bI v a b := by
  unfold bL bI
  simp only [toL_le]
theorem C_X3_hasH {b i : Int32} : xCon G Y_X3_has [.int b, .int i] T R L I (xD (some (.int (xb (hs b i)))) T R L I) := by
  have q := C_X3_has (G := G) (T := T) (R := R) (L := L) (I := I) (b := b) (i := i)
  rwa [hs3] at q
set_option maxHeartbeats 4000000 in
set_option maxRecDepth 100000 in
theorem C_X3_in {v a b : Int64} : xCon G Y_X3_in [.long v, .long a, .long b] T R L I (xD (some (.int (xb (bL v a b)))) T R L I) := by
  refine xCon.mk (xl := [some (.long v), none, some (.long a), none, some (.long b), none]) (by decide +kernel) (xle_r _) rfl (Nat.le_of_ble_eq_true rfl) rfl ?_
  refine xV_lload_n e_X3_in_0 rfl ?_
  refine xV_lload_n e_X3_in_1 rfl ?_
  refine xV_lcmp e_X3_in_2 ?_
  refine xV_if_lt e_X3_in_3 (fun h3 => ?_) (fun h3 => ?_)
  · refine xV_iconst (v := (nI 0)) e_X3_in_17 (by decide) ?_
    exact xV_zreturn e_X3_in_18 rfl rfl rfl ⟨xret_f (by unfold bL; rw [decide_eq_false (Int64.not_le.mpr ((lg_cmp_lt _ _).mp h3))]; rfl), rfl, rfl, rfl⟩
  · refine xV_lload_n e_X3_in_6 rfl ?_
    refine xV_lload e_X3_in_7 rfl ?_
    refine xV_lcmp e_X3_in_9 ?_
    refine xV_if_gt e_X3_in_10 (fun h10 => ?_) (fun h10 => ?_)
    · refine xV_iconst (v := (nI 0)) e_X3_in_17 (by decide) ?_
      exact xV_zreturn e_X3_in_18 rfl rfl rfl ⟨xret_f (by unfold bL; rw [decide_eq_false (Int64.not_le.mpr ((lg_cmp_gt _ _).mp h10)), Bool.and_false]), rfl, rfl, rfl⟩
    · refine xV_iconst (v := (nI 1)) e_X3_in_13 (by decide) ?_
      refine xV_goto e_X3_in_14 ?_
      exact xV_zreturn e_X3_in_18 rfl rfl rfl ⟨xret_t (by unfold bL; rw [decide_eq_true (Int64.not_lt.mp (fun z => h3 ((lg_cmp_lt _ _).mpr z))), decide_eq_true (Int64.not_lt.mp (fun z => h10 ((lg_cmp_gt _ _).mpr z)))]; rfl), rfl, rfl, rfl⟩
theorem bL_cell {c : Int32} : bL c.toInt64 0 11 = bCell c := by
  have e : bL c.toInt64 0 11 = bI c 0 11 := bL_I (v := c) (a := 0) (b := 11)
  rw [e]
  unfold bI bCell
  congr 1
  apply decide_eq_decide.mpr
  rw [Int32.le_iff_toInt_le, Int32.lt_iff_toInt_lt, nI_toInt (by decide)]
  show c.toInt ≤ 11 ↔ c.toInt < 12
  omega
set_option maxHeartbeats 4000000 in
set_option maxRecDepth 100000 in
theorem C_X3_noCell {c : Int32} : xCon G Y_X3_noCell [.int c] T R L I (xD (some (.int (xb (!bCell c)))) T R L I) := by
  refine xCon.mk (xl := [some (.int c)]) (by decide +kernel) (xle_r _) rfl (Nat.le_of_ble_eq_true rfl) rfl ?_
  refine xV_iload_n e_X3_noCell_0 rfl ?_
  refine xV_i2l e_X3_noCell_1 ?_
  refine xV_lconst (v := 0) e_X3_noCell_2 (by decide) ?_
  refine xV_ldc2 e_X3_noCell_3 k_X3_58 ?_
  refine xV_cS3i e_X3_noCell_6 c_X3_54 (C_X3_in) (Nat.le_of_ble_eq_true rfl) ⟨(Nat.le_of_ble_eq_true rfl), (Nat.le_of_ble_eq_true rfl)⟩ (xle_r _) (xle_r _) ?_
  refine xV_if_neB e_X3_noCell_9 (fun h9 => ?_) (fun h9 => ?_)
  · refine xV_iconst (v := (nI 0)) e_X3_noCell_16 (by decide) ?_
    exact xV_zreturn e_X3_noCell_17 rfl rfl rfl ⟨xret_f (by rw [← bL_cell, h9]; rfl), rfl, rfl, rfl⟩
  · refine xV_iconst (v := (nI 1)) e_X3_noCell_12 (by decide) ?_
    refine xV_goto e_X3_noCell_13 ?_
    exact xV_zreturn e_X3_noCell_17 rfl rfl rfl ⟨xret_t (by rw [← bL_cell, h9]; rfl), rfl, rfl, rfl⟩
end XMA
