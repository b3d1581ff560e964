/-! READER: the text sign by sign -/
section XRDR
variable {G : xG} {T : xT} {R : xR} {L : xL} {I : xI}
abbrev xRd : Type := (Nat → Int32) × xS
def RdS (G : xG) (T : xT) (R : xR) (q : Nat) : Prop := (xSh G T q).1 = 1 ∧ R q 0 = some (q + 1) ∧ MinS G T R (q + 1)
theorem va_up_up {α : Type} {f : Nat → α} {k : Nat} {x y : α} : va_up (va_up f k x) k y = va_up f k y := by
  funext j
  by_cases e : j = k
  · subst e; simp [va_up]
  · simp [va_up, e]
theorem tsw_out {x : Int32} {n : Nat} (hn : n < 2 ^ 31) (h : ∀ k, k ≤ n → ¬ x = nI k) : x.toInt < 0 ∨ (n : Int) < x.toInt := by
  by_cases a : x.toInt < 0
  · exact Or.inl a
  · by_cases b : (n : Int) < x.toInt
    · exact Or.inr b
    · refine absurd ?_ (h x.toInt.toNat (by omega))
      apply Int32.toInt_inj.mp
      rw [nI_toInt (by omega)]
      omega
theorem xbt : xb true = nI 1 := rfl
theorem xbf : xb false = nI 0 := rfl
def upB (n : Nat) (w : Nat → Int32) (i v : Int32) : Nat → Int32 := if bIn i n = true then upd w i.toNatClampNeg v else w
theorem upB_N {n k : Nat} {w : Nat → Int32} {v : Int32} (hk : k < n) (hn : n < 2 ^ 31) : upB n w (nI k) v = upd w k v := by
  rw [upB, if_pos (bIn_N hk hn), nI_clamp (Nat.lt_trans hk hn)]
section XU
variable {Y : xY} {Tb : xT} {o : xO} {pc pc' idx q : Nat} {xl : List (Option Value)} {st : List Value} {S : xS} {u : Nat → Int32}
theorem pm_u : pm (va_up I q u) (q + 1) S q = u := by rw [pm_o (by omega), va_up_s]
theorem xV_getU {k0 : Nat} (hd : decode Y.2.1 pc = .ok (.getfield idx, 3) ∧ pc + 3 = pc') (hf : xFL Y.1.cls idx 1 k0 0) (hs : (xSh G T q).1 = 1) (k : xV G Y Tb o pc' xl (.int (u k0) :: st) T R L (pm (va_up I q u) (q + 1) S)) : xV G Y Tb o pc xl (.ref q :: st) T R L (pm (va_up I q u) (q + 1) S) :=
  xV_getI hd hf hs (by rw [pm_u]; exact k)
theorem xV_putU {k0 : Nat} {x : Int32} (hd : decode Y.2.1 pc = .ok (.putfield idx, 3) ∧ pc + 3 = pc') (hf : xFP Y.1.cls idx 1 k0 0 false .int) (hs : (xSh G T q).1 = 1) (k : xV G Y Tb o pc' xl st T R L (pm (va_up I q (upd u k0 x)) (q + 1) S)) : xV G Y Tb o pc xl (.int x :: .ref q :: st) T R L (pm (va_up I q u) (q + 1) S) :=
  xV_putI hd hf hs (by unfold xst; rw [pm_u, pm_va (by omega), va_up_up]; exact k)
end XU
theorem C_X2_putB1 {h : Nat} {i v : Int32} {f w1 w2 w3 w4 w5 : Nat → Int32} (hs : xSh G T (h + 1) = (4, 12)) : xCon G Y_X2_put [.ref (h + 1), .int i, .int v] T R L (pm I h (f, w1, w2, w3, w4, w5)) (xD none T R L (pm I h (f, upB 12 w1 i v, w2, w3, w4, w5))) := by
  have q := C_X2_put (R := R) (L := L) (I := pm I h (f, w1, w2, w3, w4, w5)) (i := i) (v := v) hs (by omega)
  unfold xput at q
  unfold upB
  split at q
  · rename_i hb
    rw [pm_st1] at q
    rw [if_pos hb]
    exact q
  · rename_i hb
    rw [if_neg hb]
    exact q
theorem C_X2_putB2 {h : Nat} {i v : Int32} {f w1 w2 w3 w4 w5 : Nat → Int32} (hs : xSh G T (h + 2) = (4, 12)) : xCon G Y_X2_put [.ref (h + 2), .int i, .int v] T R L (pm I h (f, w1, w2, w3, w4, w5)) (xD none T R L (pm I h (f, w1, upB 12 w2 i v, w3, w4, w5))) := by
  have q := C_X2_put (R := R) (L := L) (I := pm I h (f, w1, w2, w3, w4, w5)) (i := i) (v := v) hs (by omega)
  unfold xput at q
  unfold upB
  split at q
  · rename_i hb
    rw [pm_st2] at q
    rw [if_pos hb]
    exact q
  · rename_i hb
    rw [if_neg hb]
    exact q
theorem C_X2_putB3 {h : Nat} {i v : Int32} {f w1 w2 w3 w4 w5 : Nat → Int32} (hs : xSh G T (h + 3) = (4, 12)) : xCon G Y_X2_put [.ref (h + 3), .int i, .int v] T R L (pm I h (f, w1, w2, w3, w4, w5)) (xD none T R L (pm I h (f, w1, w2, upB 12 w3 i v, w4, w5))) := by
  have q := C_X2_put (R := R) (L := L) (I := pm I h (f, w1, w2, w3, w4, w5)) (i := i) (v := v) hs (by omega)
  unfold xput at q
  unfold upB
  split at q
  · rename_i hb
    rw [pm_st3] at q
    rw [if_pos hb]
    exact q
  · rename_i hb
    rw [if_neg hb]
    exact q
theorem C_X2_putB4 {h : Nat} {i v : Int32} {f w1 w2 w3 w4 w5 : Nat → Int32} (hs : xSh G T (h + 4) = (4, 12)) : xCon G Y_X2_put [.ref (h + 4), .int i, .int v] T R L (pm I h (f, w1, w2, w3, w4, w5)) (xD none T R L (pm I h (f, w1, w2, w3, upB 12 w4 i v, w5))) := by
  have q := C_X2_put (R := R) (L := L) (I := pm I h (f, w1, w2, w3, w4, w5)) (i := i) (v := v) hs (by omega)
  unfold xput at q
  unfold upB
  split at q
  · rename_i hb
    rw [pm_st4] at q
    rw [if_pos hb]
    exact q
  · rename_i hb
    rw [if_neg hb]
    exact q
theorem C_X2_putB5 {h : Nat} {i v : Int32} {f w1 w2 w3 w4 w5 : Nat → Int32} (hs : xSh G T (h + 5) = (4, 4)) : xCon G Y_X2_put [.ref (h + 5), .int i, .int v] T R L (pm I h (f, w1, w2, w3, w4, w5)) (xD none T R L (pm I h (f, w1, w2, w3, w4, upB 4 w5 i v))) := by
  have q := C_X2_put (R := R) (L := L) (I := pm I h (f, w1, w2, w3, w4, w5)) (i := i) (v := v) hs (by omega)
  unfold xput at q
  unfold upB
  split at q
  · rename_i hb
    rw [pm_st5] at q
    rw [if_pos hb]
    exact q
  · rename_i hb
    rw [if_neg hb]
    exact q
set_option maxHeartbeats 4000000 in
set_option maxRecDepth 100000 in
theorem C_X0_addMonkG {f w1 w2 w3 w4 w5 : Nat → Int32} {h : Nat} (hm : MinS G T R h) {c s : Int32} : xCon G Y_X0_addMonk [.ref h, .int c, .int s] T R L (pm I h (f, w1, w2, w3, w4, w5)) (xD none T R L (pm I h (upd (upd f 7 (f 7 ||| (s <<< (f 6 &&& 31)))) 6 (f 6 + nI 1), w1, w2, w3, w4, upB 4 w5 (f 6) c))) := by
  obtain ⟨m0, r0, r1, r2, r3, r4, s1, s2, s3, s4, s5⟩ := id hm
  refine xCon.mk (xl := [some (.ref h), some (.int c), some (.int s)]) (by decide +kernel) (xle_r _) rfl (Nat.le_of_ble_eq_true rfl) rfl ?_
  refine xV_aload_n e_X0_addMonk_0 rfl ?_
  refine xV_getR e_X0_addMonk_1 f_X0_24 (by assumption) (by assumption) ?_
  refine xV_aload_n e_X0_addMonk_4 rfl ?_
  refine xV_getF e_X0_addMonk_5 f_X0_35 (by assumption) ?_
  refine xV_iload_n e_X0_addMonk_8 rfl ?_
  refine xV_cS3v e_X0_addMonk_9 c_X0_71 (C_X2_putB5 s5) (Nat.le_of_ble_eq_true rfl) ⟨(Nat.le_of_ble_eq_true rfl), (Nat.le_of_ble_eq_true rfl)⟩ (xle_r _) (xle_r _) ?_
  refine xV_aload_n e_X0_addMonk_12 rfl ?_
  refine xV_dup e_X0_addMonk_13 rfl ?_
  refine xV_getF e_X0_addMonk_14 f_X0_38 (by assumption) ?_
  refine xV_iload_n e_X0_addMonk_17 rfl ?_
  refine xV_aload_n e_X0_addMonk_18 rfl ?_
  refine xV_getF e_X0_addMonk_19 f_X0_35 (by assumption) ?_
  refine xV_ishl e_X0_addMonk_22 ?_
  refine xV_ior e_X0_addMonk_23 ?_
  refine xV_putF e_X0_addMonk_24 p_X0_38 (by assumption) ?_
  refine xV_aload_n e_X0_addMonk_27 rfl ?_
  refine xV_dup e_X0_addMonk_28 rfl ?_
  refine xV_getF e_X0_addMonk_29 f_X0_35 (by assumption) ?_
  refine xV_iconst (v := (nI 1)) e_X0_addMonk_32 (by decide) ?_
  refine xV_iadd e_X0_addMonk_33 ?_
  refine xV_putF e_X0_addMonk_34 p_X0_35 (by assumption) ?_
  exact xV_return e_X0_addMonk_37 rfl rfl ⟨rfl, rfl, rfl, rfl⟩
def rOn (n : Int32) (X : xRd) : xRd := (upd X.1 1 n, X.2)
def rHold (c : Int32) (X : xRd) : Bool × xRd := if c < nI 49 then (false, X) else if c ≤ nI 57 then (true, (upd X.1 1 (nI 2), (upd X.2.1 5 (c - nI 48), X.2.2))) else (false, X)
def rPart (c : Int32) (X : xRd) : Bool × xRd :=
  if c = nI 67 ∧ ¬ nI 8 ≤ xbc (X.1 2) then (true, rOn (nI 3) X) else if c = nI 75 ∧ ¬ nI 4 ≤ X.2.1 6 then (true, rOn (nI 8) X) else (false, X)
def tCells (t : Int32) : Int32 := if t = 0 then nI 1023 else if t = nI 1 then nI 3072 else nI 0
def rTens (t barred : Int32) (X : xRd) : Bool × xRd := (decide (¬ tCells t &&& (barred ^^^ (-1)) = 0), (upd X.1 3 (nI 10 * t), X.2))
def rOnes (t barred : Int32) (X : xRd) : Bool × xRd :=
  (if t < 0 then false else if nI 9 < t then false else bCell (X.1 3 + t) && !hs barred (X.1 3 + t), (upd X.1 3 (X.1 3 + t), X.2))
def rTell (X : xRd) : Bool × xRd := (true, (upd (upd X.1 2 (X.1 2 ||| (nI 1 <<< (X.1 3 &&& 31)))) 1 (nI 5), X.2))
def bAm (a : Int32) : Bool := !decide (a < 0) && decide (a ≤ nI 9)
def rSect (s : Int32) (X : xRd) : Bool × xRd :=
  if s = 0 ∨ s = nI 1 then (true, (upd X.1 1 (nI 2), (upd (upd X.2.1 7 (X.2.1 7 ||| (s <<< (X.2.1 6 &&& 31)))) 6 (X.2.1 6 + nI 1), X.2.2.1, X.2.2.2.1, X.2.2.2.2.1, X.2.2.2.2.2.1, upB 4 X.2.2.2.2.2.2 (X.2.1 6) (X.1 3)))) else (false, X)
/-- behind a sign that was taken: go on, else stop -/
def rThen (n : Int32) (b : Bool × xRd) : Bool × xRd := if b.1 = true then (true, rOn n b.2) else b
def rAm1 (a : Int32) (X : xRd) : Bool × xRd := if bAm a = true then (true, (X.1, (X.2.1, upB 12 X.2.2.1 (X.1 3) a, X.2.2.2))) else (false, X)
def rAm2 (a : Int32) (X : xRd) : Bool × xRd := if bAm a = true then (true, (X.1, (X.2.1, X.2.2.1, upB 12 X.2.2.2.1 (X.1 3) a, X.2.2.2.2))) else (false, X)
def rAm3 (a : Int32) (X : xRd) : Bool × xRd := if bAm a = true then (true, (X.1, (X.2.1, X.2.2.1, X.2.2.2.1, upB 12 X.2.2.2.2.1 (X.1 3) a, X.2.2.2.2.2))) else (false, X)
def rAcc (c : Int32) (X : xRd) : Bool × xRd :=
  if X.1 1 = nI 0 then (if c = nI 77 then (true, rOn (nI 1) X) else (false, X))
  else if X.1 1 = nI 1 then rHold c X
  else if X.1 1 = nI 2 then rPart c X
  else if X.1 1 = nI 3 then rThen (nI 4) (rTens (c - nI 48) (X.1 2) X)
  else if X.1 1 = nI 4 then (if (rOnes (c - nI 48) (X.1 2) X).1 = true then rTell (rOnes (c - nI 48) (X.1 2) X).2 else rOnes (c - nI 48) (X.1 2) X)
  else if X.1 1 = nI 5 then rThen (nI 6) (rAm1 (c - nI 48) X)
  else if X.1 1 = nI 6 then rThen (nI 7) (rAm2 (c - nI 48) X)
  else if X.1 1 = nI 7 then rThen (nI 2) (rAm3 (c - nI 48) X)
  else if X.1 1 = nI 8 then rThen (nI 9) (rTens (c - nI 48) (nI 0) X)
  else if X.1 1 = nI 9 then rThen (nI 10) (rOnes (c - nI 48) (nI 0) X)
  else if X.1 1 = nI 10 then rSect (c - nI 48) X
  else (false, X)
set_option maxHeartbeats 4000000 in
set_option maxRecDepth 100000 in
theorem C_X1_goOn {u f w1 w2 w3 w4 w5 : Nat → Int32} {q : Nat} (hq : RdS G T R q) {n : Int32} : xCon G Y_X1_goOn [.ref q, .int n] T R L (pm (va_up I q u) (q + 1) (f, w1, w2, w3, w4, w5)) (xD (some (.int (xb (((true, rOn n (u, (f, w1, w2, w3, w4, w5))) : Bool × xRd)).1))) T R L (pm (va_up I q (((true, rOn n (u, (f, w1, w2, w3, w4, w5))) : Bool × xRd)).2.1) (q + 1) (((true, rOn n (u, (f, w1, w2, w3, w4, w5))) : Bool × xRd)).2.2)) := by
  obtain ⟨z0, y0, hm⟩ := id hq
  obtain ⟨m0, r0, r1, r2, r3, r4, s1, s2, s3, s4, s5⟩ := id hm
  refine xCon.mk (xl := [some (.ref q), some (.int n)]) (by decide +kernel) (xle_r _) rfl (Nat.le_of_ble_eq_true rfl) rfl ?_
  refine xV_aload_n e_X1_goOn_0 rfl ?_
  refine xV_iload_n e_X1_goOn_1 rfl ?_
  refine xV_putU e_X1_goOn_2 p_X1_21 (by assumption) ?_
  refine xV_iconst (v := (nI 1)) e_X1_goOn_5 (by decide) ?_
  exact xV_zreturn e_X1_goOn_6 rfl rfl rfl ⟨rfl, rfl, rfl, rfl⟩
set_option maxHeartbeats 4000000 in
set_option maxRecDepth 100000 in
theorem C_X1_start {u f w1 w2 w3 w4 w5 : Nat → Int32} {q : Nat} (hq : RdS G T R q) : xCon G Y_X1_start [.ref q] T R L (pm (va_up I q u) (q + 1) (f, w1, w2, w3, w4, w5)) (xD none T R L (pm (va_up I q (upd (upd (upd u 1 (nI 0)) 2 (nI 0)) 3 (nI 0))) (q + 1) (clrF f, zr w1 12, zr w2 12, zr w3 12, zr w4 12, w5))) := by
  obtain ⟨z0, y0, hm⟩ := id hq
  obtain ⟨m0, r0, r1, r2, r3, r4, s1, s2, s3, s4, s5⟩ := id hm
  refine xCon.mk (xl := [some (.ref q)]) (by decide +kernel) (xle_r _) rfl (Nat.le_of_ble_eq_true rfl) rfl ?_
  refine xV_aload_n e_X1_start_0 rfl ?_
  refine xV_getR e_X1_start_1 f_X1_12 (by assumption) (by assumption) ?_
  refine xV_cV0v e_X1_start_4 c_X1_18 (by assumption) (C_X0_clear hm) (Nat.le_of_ble_eq_true rfl) ⟨(Nat.le_of_ble_eq_true rfl), (Nat.le_of_ble_eq_true rfl)⟩ (xle_r _) (xle_r _) ?_
  refine xV_aload_n e_X1_start_7 rfl ?_
  refine xV_iconst (v := (nI 0)) e_X1_start_8 (by decide) ?_
  refine xV_putU e_X1_start_9 p_X1_21 (by assumption) ?_
  refine xV_aload_n e_X1_start_12 rfl ?_
  refine xV_iconst (v := (nI 0)) e_X1_start_13 (by decide) ?_
  refine xV_putU e_X1_start_14 p_X1_25 (by assumption) ?_
  refine xV_aload_n e_X1_start_17 rfl ?_
  refine xV_iconst (v := (nI 0)) e_X1_start_18 (by decide) ?_
  refine xV_putU e_X1_start_19 p_X1_28 (by assumption) ?_
  exact xV_return e_X1_start_22 rfl rfl ⟨rfl, rfl, rfl, rfl⟩
set_option maxHeartbeats 4000000 in
set_option maxRecDepth 100000 in
theorem C_X1_mayEnd {u f w1 w2 w3 w4 w5 : Nat → Int32} {q : Nat} (hq : RdS G T R q) : xCon G Y_X1_mayEnd [.ref q] T R L (pm (va_up I q u) (q + 1) (f, w1, w2, w3, w4, w5)) (xD (some (.int (xb (decide (u 1 = nI 2))))) T R L (pm (va_up I q u) (q + 1) (f, w1, w2, w3, w4, w5))) := by
  obtain ⟨z0, y0, hm⟩ := id hq
  obtain ⟨m0, r0, r1, r2, r3, r4, s1, s2, s3, s4, s5⟩ := id hm
  refine xCon.mk (xl := [some (.ref q)]) (by decide +kernel) (xle_r _) rfl (Nat.le_of_ble_eq_true rfl) rfl ?_
  refine xV_aload_n e_X1_mayEnd_0 rfl ?_
  refine xV_getU e_X1_mayEnd_1 f_X1_21 (by assumption) ?_
  refine xV_iconst (v := (nI 2)) e_X1_mayEnd_4 (by decide) ?_
  refine xV_icmp_ne e_X1_mayEnd_5 (fun h5 => ?_) (fun h5 => ?_)
  · refine xV_iconst (v := (nI 0)) e_X1_mayEnd_12 (by decide) ?_
    exact xV_zreturn e_X1_mayEnd_13 rfl rfl rfl (by refine ⟨?_, rfl, rfl, ?_⟩ <;> simp [xbt, xbf, *])
  · refine xV_iconst (v := (nI 1)) e_X1_mayEnd_8 (by decide) ?_
    refine xV_goto e_X1_mayEnd_9 ?_
    exact xV_zreturn e_X1_mayEnd_13 rfl rfl rfl (by refine ⟨?_, rfl, rfl, ?_⟩ <;> simp [xbt, xbf, *])
set_option maxHeartbeats 4000000 in
set_option maxRecDepth 100000 in
theorem C_X1_acceptsHold {u f w1 w2 w3 w4 w5 : Nat → Int32} {q : Nat} (hq : RdS G T R q) {c : Int32} : xCon G Y_X1_acceptsHold [.ref q, .int c] T R L (pm (va_up I q u) (q + 1) (f, w1, w2, w3, w4, w5)) (xD (some (.int (xb (rHold c (u, (f, w1, w2, w3, w4, w5))).1))) T R L (pm (va_up I q (rHold c (u, (f, w1, w2, w3, w4, w5))).2.1) (q + 1) (rHold c (u, (f, w1, w2, w3, w4, w5))).2.2)) := by
  obtain ⟨z0, y0, hm⟩ := id hq
  obtain ⟨m0, r0, r1, r2, r3, r4, s1, s2, s3, s4, s5⟩ := id hm
  refine xCon.mk (xl := [some (.ref q), some (.int c)]) (by decide +kernel) (xle_r _) rfl (Nat.le_of_ble_eq_true rfl) rfl ?_
  refine xV_iload_n e_X1_acceptsHold_0 rfl ?_
  refine xV_bipush (v := (nI 49)) e_X1_acceptsHold_1 (by decide) ?_
  refine xV_icmp_lt e_X1_acceptsHold_3 (fun h3 => ?_) (fun h3 => ?_)
  · refine xV_iconst (v := (nI 0)) e_X1_acceptsHold_12 (by decide) ?_
    exact xV_zreturn e_X1_acceptsHold_13 rfl rfl rfl (by rw [rHold, if_pos h3]; exact ⟨rfl, rfl, rfl, rfl⟩)
  · refine xV_iload_n e_X1_acceptsHold_6 rfl ?_
    refine xV_bipush (v := (nI 57)) e_X1_acceptsHold_7 (by decide) ?_
    refine xV_icmp_le e_X1_acceptsHold_9 (fun h9 => ?_) (fun h9 => ?_)
    · refine xV_aload_n e_X1_acceptsHold_14 rfl ?_
      refine xV_getR e_X1_acceptsHold_15 f_X1_12 (by assumption) (by assumption) ?_
      refine xV_iload_n e_X1_acceptsHold_18 rfl ?_
      refine xV_bipush (v := (nI 48)) e_X1_acceptsHold_19 (by decide) ?_
      refine xV_isub e_X1_acceptsHold_21 ?_
      refine xV_putF e_X1_acceptsHold_22 p_X1_69 (by assumption) ?_
      refine xV_aload_n e_X1_acceptsHold_25 rfl ?_
      refine xV_iconst (v := (nI 2)) e_X1_acceptsHold_26 (by decide) ?_
      refine xV_cV1i e_X1_acceptsHold_27 c_X1_31 (by assumption) (C_X1_goOn hq) (Nat.le_of_ble_eq_true rfl) ⟨(Nat.le_of_ble_eq_true rfl), (Nat.le_of_ble_eq_true rfl)⟩ (xle_r _) (xle_r _) ?_
      exact xV_zreturn e_X1_acceptsHold_30 rfl (xb_nar _) rfl (by rw [rHold, if_neg h3, if_pos h9]; exact ⟨rfl, rfl, rfl, rfl⟩)
    · refine xV_iconst (v := (nI 0)) e_X1_acceptsHold_12 (by decide) ?_
      exact xV_zreturn e_X1_acceptsHold_13 rfl rfl rfl (by rw [rHold, if_neg h3, if_neg h9]; exact ⟨rfl, rfl, rfl, rfl⟩)
set_option maxHeartbeats 4000000 in
set_option maxRecDepth 100000 in
theorem C_X1_acceptsPart {u f w1 w2 w3 w4 w5 : Nat → Int32} {q : Nat} (hq : RdS G T R q) {c : Int32} : xCon G Y_X1_acceptsPart [.ref q, .int c] T R L (pm (va_up I q u) (q + 1) (f, w1, w2, w3, w4, w5)) (xD (some (.int (xb (rPart c (u, (f, w1, w2, w3, w4, w5))).1))) T R L (pm (va_up I q (rPart c (u, (f, w1, w2, w3, w4, w5))).2.1) (q + 1) (rPart c (u, (f, w1, w2, w3, w4, w5))).2.2)) := by
  obtain ⟨z0, y0, hm⟩ := id hq
  obtain ⟨m0, r0, r1, r2, r3, r4, s1, s2, s3, s4, s5⟩ := id hm
  refine xCon.mk (xl := [some (.ref q), some (.int c)]) (by decide +kernel) (xle_r _) rfl (Nat.le_of_ble_eq_true rfl) rfl ?_
  refine xV_iload_n e_X1_acceptsPart_0 rfl ?_
  refine xV_bipush (v := (nI 67)) e_X1_acceptsPart_1 (by decide) ?_
  refine xV_icmp_ne e_X1_acceptsPart_3 (fun h3 => ?_) (fun h3 => ?_)
  · refine xV_iload_n e_X1_acceptsPart_24 rfl ?_
    refine xV_bipush (v := (nI 75)) e_X1_acceptsPart_25 (by decide) ?_
    refine xV_icmp_ne e_X1_acceptsPart_27 (fun h27 => ?_) (fun h27 => ?_)
    · refine xV_iconst (v := (nI 0)) e_X1_acceptsPart_54 (by decide) ?_
      exact xV_zreturn e_X1_acceptsPart_55 rfl rfl rfl (by rw [rPart, if_neg (fun z => h3 z.1), if_neg (fun z => h27 z.1)]; exact ⟨rfl, rfl, rfl, rfl⟩)
    · refine xV_aload_n e_X1_acceptsPart_30 rfl ?_
      refine xV_getR e_X1_acceptsPart_31 f_X1_12 (by assumption) (by assumption) ?_
      refine xV_getF e_X1_acceptsPart_34 f_X1_78 (by assumption) ?_
      refine xV_iconst (v := (nI 4)) e_X1_acceptsPart_37 (by decide) ?_
      refine xV_icmp_ge e_X1_acceptsPart_38 (fun h38 => ?_) (fun h38 => ?_)
      · refine xV_iconst (v := (nI 0)) e_X1_acceptsPart_54 (by decide) ?_
        exact xV_zreturn e_X1_acceptsPart_55 rfl rfl rfl (by rw [rPart, if_neg (fun z => h3 z.1), if_neg (fun z => z.2 h38)]; exact ⟨rfl, rfl, rfl, rfl⟩)
      · refine xV_aload_n e_X1_acceptsPart_41 rfl ?_
        refine xV_bipush (v := (nI 8)) e_X1_acceptsPart_42 (by decide) ?_
        refine xV_cV1i e_X1_acceptsPart_44 c_X1_31 (by assumption) (C_X1_goOn hq) (Nat.le_of_ble_eq_true rfl) ⟨(Nat.le_of_ble_eq_true rfl), (Nat.le_of_ble_eq_true rfl)⟩ (xle_r _) (xle_r _) ?_
        refine xV_if_eqB e_X1_acceptsPart_47 (fun h47 => ?_) (fun h47 => ?_)
        · exact absurd (show true = false from h47) (by decide)
        · refine xV_iconst (v := (nI 1)) e_X1_acceptsPart_50 (by decide) ?_
          refine xV_goto e_X1_acceptsPart_51 ?_
          exact xV_zreturn e_X1_acceptsPart_55 rfl rfl rfl (by rw [rPart, if_neg (fun z => h3 z.1), if_pos ⟨h27, h38⟩]; exact ⟨rfl, rfl, rfl, rfl⟩)
  · refine xV_aload_n e_X1_acceptsPart_6 rfl ?_
    refine xV_getU e_X1_acceptsPart_7 f_X1_25 (by assumption) ?_
    refine xV_cS1i e_X1_acceptsPart_10 c_X1_72 (C_J6_bitCount_0f7a4) (Nat.le_of_ble_eq_true rfl) ⟨(Nat.le_of_ble_eq_true rfl), (Nat.le_of_ble_eq_true rfl)⟩ (xle_r _) (xle_r _) ?_
    refine xV_bipush (v := (nI 8)) e_X1_acceptsPart_13 (by decide) ?_
    refine xV_icmp_ge e_X1_acceptsPart_15 (fun h15 => ?_) (fun h15 => ?_)
    · refine xV_iload_n e_X1_acceptsPart_24 rfl ?_
      refine xV_bipush (v := (nI 75)) e_X1_acceptsPart_25 (by decide) ?_
      refine xV_icmp_ne e_X1_acceptsPart_27 (fun h27 => ?_) (fun h27 => ?_)
      · refine xV_iconst (v := (nI 0)) e_X1_acceptsPart_54 (by decide) ?_
        exact xV_zreturn e_X1_acceptsPart_55 rfl rfl rfl (by rw [rPart, if_neg (fun z => z.2 h15), if_neg (fun z => h27 z.1)]; exact ⟨rfl, rfl, rfl, rfl⟩)
      · refine xV_aload_n e_X1_acceptsPart_30 rfl ?_
        refine xV_getR e_X1_acceptsPart_31 f_X1_12 (by assumption) (by assumption) ?_
        refine xV_getF e_X1_acceptsPart_34 f_X1_78 (by assumption) ?_
        refine xV_iconst (v := (nI 4)) e_X1_acceptsPart_37 (by decide) ?_
        refine xV_icmp_ge e_X1_acceptsPart_38 (fun h38 => ?_) (fun h38 => ?_)
        · refine xV_iconst (v := (nI 0)) e_X1_acceptsPart_54 (by decide) ?_
          exact xV_zreturn e_X1_acceptsPart_55 rfl rfl rfl (by rw [rPart, if_neg (fun z => z.2 h15), if_neg (fun z => z.2 h38)]; exact ⟨rfl, rfl, rfl, rfl⟩)
        · refine xV_aload_n e_X1_acceptsPart_41 rfl ?_
          refine xV_bipush (v := (nI 8)) e_X1_acceptsPart_42 (by decide) ?_
          refine xV_cV1i e_X1_acceptsPart_44 c_X1_31 (by assumption) (C_X1_goOn hq) (Nat.le_of_ble_eq_true rfl) ⟨(Nat.le_of_ble_eq_true rfl), (Nat.le_of_ble_eq_true rfl)⟩ (xle_r _) (xle_r _) ?_
          refine xV_if_eqB e_X1_acceptsPart_47 (fun h47 => ?_) (fun h47 => ?_)
          · exact absurd (show true = false from h47) (by decide)
          · refine xV_iconst (v := (nI 1)) e_X1_acceptsPart_50 (by decide) ?_
            refine xV_goto e_X1_acceptsPart_51 ?_
            exact xV_zreturn e_X1_acceptsPart_55 rfl rfl rfl (by rw [rPart, if_neg (fun z => z.2 h15), if_pos ⟨h27, h38⟩]; exact ⟨rfl, rfl, rfl, rfl⟩)
    · refine xV_aload_n e_X1_acceptsPart_18 rfl ?_
      refine xV_iconst (v := (nI 3)) e_X1_acceptsPart_19 (by decide) ?_
      refine xV_cV1i e_X1_acceptsPart_20 c_X1_31 (by assumption) (C_X1_goOn hq) (Nat.le_of_ble_eq_true rfl) ⟨(Nat.le_of_ble_eq_true rfl), (Nat.le_of_ble_eq_true rfl)⟩ (xle_r _) (xle_r _) ?_
      exact xV_zreturn e_X1_acceptsPart_23 rfl (xb_nar _) rfl (by rw [rPart, if_pos ⟨h3, h15⟩]; exact ⟨rfl, rfl, rfl, rfl⟩)
set_option maxHeartbeats 4000000 in
set_option maxRecDepth 100000 in
theorem C_X1_acceptsTens {u f w1 w2 w3 w4 w5 : Nat → Int32} {q : Nat} (hq : RdS G T R q) {t b : Int32} : xCon G Y_X1_acceptsTens [.ref q, .int t, .int b] T R L (pm (va_up I q u) (q + 1) (f, w1, w2, w3, w4, w5)) (xD (some (.int (xb (rTens t b (u, (f, w1, w2, w3, w4, w5))).1))) T R L (pm (va_up I q (rTens t b (u, (f, w1, w2, w3, w4, w5))).2.1) (q + 1) (rTens t b (u, (f, w1, w2, w3, w4, w5))).2.2)) := by
  obtain ⟨z0, y0, hm⟩ := id hq
  obtain ⟨m0, r0, r1, r2, r3, r4, s1, s2, s3, s4, s5⟩ := id hm
  refine xCon.mk (xl := [some (.ref q), some (.int t), some (.int b), none]) (by decide +kernel) (xle_r _) rfl (Nat.le_of_ble_eq_true rfl) rfl ?_
  refine xV_iload_n e_X1_acceptsTens_0 rfl ?_
  refine xV_if_ne e_X1_acceptsTens_1 (fun h1 => ?_) (fun h1 => ?_)
  · refine xV_iload_n e_X1_acceptsTens_10 rfl ?_
    refine xV_iconst (v := (nI 1)) e_X1_acceptsTens_11 (by decide) ?_
    refine xV_icmp_ne e_X1_acceptsTens_12 (fun h12 => ?_) (fun h12 => ?_)
    · refine xV_iconst (v := (nI 0)) e_X1_acceptsTens_21 (by decide) ?_
      refine xV_istore_n e_X1_acceptsTens_22 (Nat.le_of_ble_eq_true rfl) rfl ?_
      refine xV_aload_n e_X1_acceptsTens_23 rfl ?_
      refine xV_bipush (v := (nI 10)) e_X1_acceptsTens_24 (by decide) ?_
      refine xV_iload_n e_X1_acceptsTens_26 rfl ?_
      refine xV_imul e_X1_acceptsTens_27 ?_
      refine xV_putU e_X1_acceptsTens_28 p_X1_28 (by assumption) ?_
      refine xV_iload_n e_X1_acceptsTens_31 rfl ?_
      refine xV_iload_n e_X1_acceptsTens_32 rfl ?_
      refine xV_iconst (v := (-1)) e_X1_acceptsTens_33 (by decide) ?_
      refine xV_ixor e_X1_acceptsTens_34 ?_
      refine xV_iand e_X1_acceptsTens_35 ?_
      refine xV_if_eq e_X1_acceptsTens_36 (fun h36 => ?_) (fun h36 => ?_)
      · refine xV_iconst (v := (nI 0)) e_X1_acceptsTens_43 (by decide) ?_
        exact xV_zreturn e_X1_acceptsTens_44 rfl rfl rfl ⟨xret_f (decide_eq_false (fun z => z (by rw [show tCells t = nI 0 from by rw [tCells, if_neg h1, if_neg h12]]; exact h36))), rfl, rfl, rfl⟩
      · refine xV_iconst (v := (nI 1)) e_X1_acceptsTens_39 (by decide) ?_
        refine xV_goto e_X1_acceptsTens_40 ?_
        exact xV_zreturn e_X1_acceptsTens_44 rfl rfl rfl ⟨xret_t (decide_eq_true (by rw [show tCells t = nI 0 from by rw [tCells, if_neg h1, if_neg h12]]; exact h36)), rfl, rfl, rfl⟩
    · refine xV_sipush (v := (nI 3072)) e_X1_acceptsTens_15 (by decide) ?_
      refine xV_goto e_X1_acceptsTens_18 ?_
      refine xV_istore_n e_X1_acceptsTens_22 (Nat.le_of_ble_eq_true rfl) rfl ?_
      refine xV_aload_n e_X1_acceptsTens_23 rfl ?_
      refine xV_bipush (v := (nI 10)) e_X1_acceptsTens_24 (by decide) ?_
      refine xV_iload_n e_X1_acceptsTens_26 rfl ?_
      refine xV_imul e_X1_acceptsTens_27 ?_
      refine xV_putU e_X1_acceptsTens_28 p_X1_28 (by assumption) ?_
      refine xV_iload_n e_X1_acceptsTens_31 rfl ?_
      refine xV_iload_n e_X1_acceptsTens_32 rfl ?_
      refine xV_iconst (v := (-1)) e_X1_acceptsTens_33 (by decide) ?_
      refine xV_ixor e_X1_acceptsTens_34 ?_
      refine xV_iand e_X1_acceptsTens_35 ?_
      refine xV_if_eq e_X1_acceptsTens_36 (fun h36 => ?_) (fun h36 => ?_)
      · refine xV_iconst (v := (nI 0)) e_X1_acceptsTens_43 (by decide) ?_
        exact xV_zreturn e_X1_acceptsTens_44 rfl rfl rfl ⟨xret_f (decide_eq_false (fun z => z (by rw [show tCells t = nI 3072 from by rw [tCells, if_neg h1, if_pos h12]]; exact h36))), rfl, rfl, rfl⟩
      · refine xV_iconst (v := (nI 1)) e_X1_acceptsTens_39 (by decide) ?_
        refine xV_goto e_X1_acceptsTens_40 ?_
        exact xV_zreturn e_X1_acceptsTens_44 rfl rfl rfl ⟨xret_t (decide_eq_true (by rw [show tCells t = nI 3072 from by rw [tCells, if_neg h1, if_pos h12]]; exact h36)), rfl, rfl, rfl⟩
  · refine xV_sipush (v := (nI 1023)) e_X1_acceptsTens_4 (by decide) ?_
    refine xV_goto e_X1_acceptsTens_7 ?_
    refine xV_istore_n e_X1_acceptsTens_22 (Nat.le_of_ble_eq_true rfl) rfl ?_
    refine xV_aload_n e_X1_acceptsTens_23 rfl ?_
    refine xV_bipush (v := (nI 10)) e_X1_acceptsTens_24 (by decide) ?_
    refine xV_iload_n e_X1_acceptsTens_26 rfl ?_
    refine xV_imul e_X1_acceptsTens_27 ?_
    refine xV_putU e_X1_acceptsTens_28 p_X1_28 (by assumption) ?_
    refine xV_iload_n e_X1_acceptsTens_31 rfl ?_
    refine xV_iload_n e_X1_acceptsTens_32 rfl ?_
    refine xV_iconst (v := (-1)) e_X1_acceptsTens_33 (by decide) ?_
    refine xV_ixor e_X1_acceptsTens_34 ?_
    refine xV_iand e_X1_acceptsTens_35 ?_
    refine xV_if_eq e_X1_acceptsTens_36 (fun h36 => ?_) (fun h36 => ?_)
    · refine xV_iconst (v := (nI 0)) e_X1_acceptsTens_43 (by decide) ?_
      exact xV_zreturn e_X1_acceptsTens_44 rfl rfl rfl ⟨xret_f (decide_eq_false (fun z => z (by rw [show tCells t = nI 1023 from if_pos h1]; exact h36))), rfl, rfl, rfl⟩
    · refine xV_iconst (v := (nI 1)) e_X1_acceptsTens_39 (by decide) ?_
      refine xV_goto e_X1_acceptsTens_40 ?_
      exact xV_zreturn e_X1_acceptsTens_44 rfl rfl rfl ⟨xret_t (decide_eq_true (by rw [show tCells t = nI 1023 from if_pos h1]; exact h36)), rfl, rfl, rfl⟩
set_option maxHeartbeats 4000000 in
set_option maxRecDepth 100000 in
theorem C_X1_acceptsOnes {u f w1 w2 w3 w4 w5 : Nat → Int32} {q : Nat} (hq : RdS G T R q) {t b : Int32} : xCon G Y_X1_acceptsOnes [.ref q, .int t, .int b] T R L (pm (va_up I q u) (q + 1) (f, w1, w2, w3, w4, w5)) (xD (some (.int (xb (rOnes t b (u, (f, w1, w2, w3, w4, w5))).1))) T R L (pm (va_up I q (rOnes t b (u, (f, w1, w2, w3, w4, w5))).2.1) (q + 1) (rOnes t b (u, (f, w1, w2, w3, w4, w5))).2.2)) := by
  obtain ⟨z0, y0, hm⟩ := id hq
  obtain ⟨m0, r0, r1, r2, r3, r4, s1, s2, s3, s4, s5⟩ := id hm
  refine xCon.mk (xl := [some (.ref q), some (.int t), some (.int b)]) (by decide +kernel) (xle_r _) rfl (Nat.le_of_ble_eq_true rfl) rfl ?_
  refine xV_aload_n e_X1_acceptsOnes_0 rfl ?_
  refine xV_dup e_X1_acceptsOnes_1 rfl ?_
  refine xV_getU e_X1_acceptsOnes_2 f_X1_28 (by assumption) ?_
  refine xV_iload_n e_X1_acceptsOnes_5 rfl ?_
  refine xV_iadd e_X1_acceptsOnes_6 ?_
  refine xV_putU e_X1_acceptsOnes_7 p_X1_28 (by assumption) ?_
  refine xV_iload_n e_X1_acceptsOnes_10 rfl ?_
  refine xV_if_lt e_X1_acceptsOnes_11 (fun h11 => ?_) (fun h11 => ?_)
  · refine xV_iconst (v := (nI 0)) e_X1_acceptsOnes_45 (by decide) ?_
    exact xV_zreturn e_X1_acceptsOnes_46 rfl rfl rfl ⟨xret_f (by show (if t < 0 then false else if nI 9 < t then false else bCell (u 3 + t) && !hs b (u 3 + t)) = false; rw [if_pos h11]), rfl, rfl, rfl⟩
  · refine xV_iload_n e_X1_acceptsOnes_14 rfl ?_
    refine xV_bipush (v := (nI 9)) e_X1_acceptsOnes_15 (by decide) ?_
    refine xV_icmp_gt e_X1_acceptsOnes_17 (fun h17 => ?_) (fun h17 => ?_)
    · refine xV_iconst (v := (nI 0)) e_X1_acceptsOnes_45 (by decide) ?_
      exact xV_zreturn e_X1_acceptsOnes_46 rfl rfl rfl ⟨xret_f (by show (if t < 0 then false else if nI 9 < t then false else bCell (u 3 + t) && !hs b (u 3 + t)) = false; rw [if_neg h11, if_pos h17]), rfl, rfl, rfl⟩
    · refine xV_aload_n e_X1_acceptsOnes_20 rfl ?_
      refine xV_getU e_X1_acceptsOnes_21 f_X1_28 (by assumption) ?_
      refine xV_cS1i e_X1_acceptsOnes_24 c_X1_81 (C_X2_isCell) (Nat.le_of_ble_eq_true rfl) ⟨(Nat.le_of_ble_eq_true rfl), (Nat.le_of_ble_eq_true rfl)⟩ (xle_r _) (xle_r _) ?_
      refine xV_if_eqB e_X1_acceptsOnes_27 (fun h27 => ?_) (fun h27 => ?_)
      · refine xV_iconst (v := (nI 0)) e_X1_acceptsOnes_45 (by decide) ?_
        exact xV_zreturn e_X1_acceptsOnes_46 rfl rfl rfl ⟨xret_f (by show (if t < 0 then false else if nI 9 < t then false else bCell (u 3 + t) && !hs b (u 3 + t)) = false; have k27 : bCell (u 3 + t) = false := h27; rw [if_neg h11, if_neg h17, k27]; rfl), rfl, rfl, rfl⟩
      · refine xV_iload_n e_X1_acceptsOnes_30 rfl ?_
        refine xV_aload_n e_X1_acceptsOnes_31 rfl ?_
        refine xV_getU e_X1_acceptsOnes_32 f_X1_28 (by assumption) ?_
        refine xV_cS2i e_X1_acceptsOnes_35 c_X1_84 (C_X2_has) (Nat.le_of_ble_eq_true rfl) ⟨(Nat.le_of_ble_eq_true rfl), (Nat.le_of_ble_eq_true rfl)⟩ (xle_r _) (xle_r _) ?_
        refine xV_if_neB e_X1_acceptsOnes_38 (fun h38 => ?_) (fun h38 => ?_)
        · refine xV_iconst (v := (nI 0)) e_X1_acceptsOnes_45 (by decide) ?_
          exact xV_zreturn e_X1_acceptsOnes_46 rfl rfl rfl ⟨xret_f (by show (if t < 0 then false else if nI 9 < t then false else bCell (u 3 + t) && !hs b (u 3 + t)) = false; have k27 : bCell (u 3 + t) = true := h27; have k38 : hs b (u 3 + t) = true := h38; rw [if_neg h11, if_neg h17, k27, k38]; rfl), rfl, rfl, rfl⟩
        · refine xV_iconst (v := (nI 1)) e_X1_acceptsOnes_41 (by decide) ?_
          refine xV_goto e_X1_acceptsOnes_42 ?_
          exact xV_zreturn e_X1_acceptsOnes_46 rfl rfl rfl ⟨xret_t (by show (if t < 0 then false else if nI 9 < t then false else bCell (u 3 + t) && !hs b (u 3 + t)) = true; have k27 : bCell (u 3 + t) = true := h27; have k38 : hs b (u 3 + t) = false := h38; rw [if_neg h11, if_neg h17, k27, k38]; rfl), rfl, rfl, rfl⟩
set_option maxHeartbeats 4000000 in
set_option maxRecDepth 100000 in
theorem C_X1_tell {u f w1 w2 w3 w4 w5 : Nat → Int32} {q : Nat} (hq : RdS G T R q)  : xCon G Y_X1_tell [.ref q] T R L (pm (va_up I q u) (q + 1) (f, w1, w2, w3, w4, w5)) (xD (some (.int (xb (rTell (u, (f, w1, w2, w3, w4, w5))).1))) T R L (pm (va_up I q (rTell (u, (f, w1, w2, w3, w4, w5))).2.1) (q + 1) (rTell (u, (f, w1, w2, w3, w4, w5))).2.2)) := by
  obtain ⟨z0, y0, hm⟩ := id hq
  obtain ⟨m0, r0, r1, r2, r3, r4, s1, s2, s3, s4, s5⟩ := id hm
  refine xCon.mk (xl := [some (.ref q)]) (by decide +kernel) (xle_r _) rfl (Nat.le_of_ble_eq_true rfl) rfl ?_
  refine xV_aload_n e_X1_tell_0 rfl ?_
  refine xV_dup e_X1_tell_1 rfl ?_
  refine xV_getU e_X1_tell_2 f_X1_25 (by assumption) ?_
  refine xV_iconst (v := (nI 1)) e_X1_tell_5 (by decide) ?_
  refine xV_aload_n e_X1_tell_6 rfl ?_
  refine xV_getU e_X1_tell_7 f_X1_28 (by assumption) ?_
  refine xV_ishl e_X1_tell_10 ?_
  refine xV_ior e_X1_tell_11 ?_
  refine xV_putU e_X1_tell_12 p_X1_25 (by assumption) ?_
  refine xV_aload_n e_X1_tell_15 rfl ?_
  refine xV_iconst (v := (nI 5)) e_X1_tell_16 (by decide) ?_
  refine xV_cV1i e_X1_tell_17 c_X1_31 (by assumption) (C_X1_goOn hq) (Nat.le_of_ble_eq_true rfl) ⟨(Nat.le_of_ble_eq_true rfl), (Nat.le_of_ble_eq_true rfl)⟩ (xle_r _) (xle_r _) ?_
  exact xV_zreturn e_X1_tell_20 rfl (xb_nar _) rfl ⟨rfl, rfl, rfl, rfl⟩
set_option maxHeartbeats 4000000 in
set_option maxRecDepth 100000 in
theorem C_X1_acceptsSect {u f w1 w2 w3 w4 w5 : Nat → Int32} {q : Nat} (hq : RdS G T R q) {s : Int32} : xCon G Y_X1_acceptsSect [.ref q, .int s] T R L (pm (va_up I q u) (q + 1) (f, w1, w2, w3, w4, w5)) (xD (some (.int (xb (rSect s (u, (f, w1, w2, w3, w4, w5))).1))) T R L (pm (va_up I q (rSect s (u, (f, w1, w2, w3, w4, w5))).2.1) (q + 1) (rSect s (u, (f, w1, w2, w3, w4, w5))).2.2)) := by
  obtain ⟨z0, y0, hm⟩ := id hq
  obtain ⟨m0, r0, r1, r2, r3, r4, s1, s2, s3, s4, s5⟩ := id hm
  refine xCon.mk (xl := [some (.ref q), some (.int s)]) (by decide +kernel) (xle_r _) rfl (Nat.le_of_ble_eq_true rfl) rfl ?_
  refine xV_iload_n e_X1_acceptsSect_0 rfl ?_
  refine xV_if_eq e_X1_acceptsSect_1 (fun h1 => ?_) (fun h1 => ?_)
  · refine xV_aload_n e_X1_acceptsSect_11 rfl ?_
    refine xV_getR e_X1_acceptsSect_12 f_X1_12 (by assumption) (by assumption) ?_
    refine xV_aload_n e_X1_acceptsSect_15 rfl ?_
    refine xV_getU e_X1_acceptsSect_16 f_X1_28 (by assumption) ?_
    refine xV_iload_n e_X1_acceptsSect_19 rfl ?_
    refine xV_cV2v e_X1_acceptsSect_20 c_X1_91 (by assumption) (C_X0_addMonkG hm) (Nat.le_of_ble_eq_true rfl) ⟨(Nat.le_of_ble_eq_true rfl), (Nat.le_of_ble_eq_true rfl)⟩ (xle_r _) (xle_r _) ?_
    refine xV_aload_n e_X1_acceptsSect_23 rfl ?_
    refine xV_iconst (v := (nI 2)) e_X1_acceptsSect_24 (by decide) ?_
    refine xV_cV1i e_X1_acceptsSect_25 c_X1_31 (by assumption) (C_X1_goOn hq) (Nat.le_of_ble_eq_true rfl) ⟨(Nat.le_of_ble_eq_true rfl), (Nat.le_of_ble_eq_true rfl)⟩ (xle_r _) (xle_r _) ?_
    exact xV_zreturn e_X1_acceptsSect_28 rfl (xb_nar _) rfl (by rw [rSect, if_pos (Or.inl h1)]; exact ⟨rfl, rfl, rfl, rfl⟩)
  · refine xV_iload_n e_X1_acceptsSect_4 rfl ?_
    refine xV_iconst (v := (nI 1)) e_X1_acceptsSect_5 (by decide) ?_
    refine xV_icmp_eq e_X1_acceptsSect_6 (fun h6 => ?_) (fun h6 => ?_)
    · refine xV_aload_n e_X1_acceptsSect_11 rfl ?_
      refine xV_getR e_X1_acceptsSect_12 f_X1_12 (by assumption) (by assumption) ?_
      refine xV_aload_n e_X1_acceptsSect_15 rfl ?_
      refine xV_getU e_X1_acceptsSect_16 f_X1_28 (by assumption) ?_
      refine xV_iload_n e_X1_acceptsSect_19 rfl ?_
      refine xV_cV2v e_X1_acceptsSect_20 c_X1_91 (by assumption) (C_X0_addMonkG hm) (Nat.le_of_ble_eq_true rfl) ⟨(Nat.le_of_ble_eq_true rfl), (Nat.le_of_ble_eq_true rfl)⟩ (xle_r _) (xle_r _) ?_
      refine xV_aload_n e_X1_acceptsSect_23 rfl ?_
      refine xV_iconst (v := (nI 2)) e_X1_acceptsSect_24 (by decide) ?_
      refine xV_cV1i e_X1_acceptsSect_25 c_X1_31 (by assumption) (C_X1_goOn hq) (Nat.le_of_ble_eq_true rfl) ⟨(Nat.le_of_ble_eq_true rfl), (Nat.le_of_ble_eq_true rfl)⟩ (xle_r _) (xle_r _) ?_
      exact xV_zreturn e_X1_acceptsSect_28 rfl (xb_nar _) rfl (by rw [rSect, if_pos (Or.inr h6)]; exact ⟨rfl, rfl, rfl, rfl⟩)
    · refine xV_iconst (v := (nI 0)) e_X1_acceptsSect_9 (by decide) ?_
      exact xV_zreturn e_X1_acceptsSect_10 rfl rfl rfl (by rw [rSect, if_neg (fun z => z.elim h1 h6)]; exact ⟨rfl, rfl, rfl, rfl⟩)
set_option maxHeartbeats 4000000 in
set_option maxRecDepth 100000 in
theorem C_X1_acceptsAmount1 {u f w1 w2 w3 w4 w5 : Nat → Int32} {q : Nat} (hq : RdS G T R q) {a : Int32} : xCon G Y_X1_acceptsAmount [.ref q, .ref (q + 1 + 1), .int a] T R L (pm (va_up I q u) (q + 1) (f, w1, w2, w3, w4, w5)) (xD (some (.int (xb (rAm1 a (u, (f, w1, w2, w3, w4, w5))).1))) T R L (pm (va_up I q (rAm1 a (u, (f, w1, w2, w3, w4, w5))).2.1) (q + 1) (rAm1 a (u, (f, w1, w2, w3, w4, w5))).2.2)) := by
  obtain ⟨z0, y0, hm⟩ := id hq
  obtain ⟨m0, r0, r1, r2, r3, r4, s1, s2, s3, s4, s5⟩ := id hm
  refine xCon.mk (xl := [some (.ref q), some (.ref (q + 1 + 1)), some (.int a)]) (by decide +kernel) (xle_r _) rfl (Nat.le_of_ble_eq_true rfl) rfl ?_
  refine xV_iload_n e_X1_acceptsAmount_0 rfl ?_
  refine xV_if_lt e_X1_acceptsAmount_1 (fun h1 => ?_) (fun h1 => ?_)
  · refine xV_iconst (v := (nI 0)) e_X1_acceptsAmount_10 (by decide) ?_
    exact xV_zreturn e_X1_acceptsAmount_11 rfl rfl rfl (by rw [rAm1, if_neg (by simp [bAm, h1])]; exact ⟨rfl, rfl, rfl, rfl⟩)
  · refine xV_iload_n e_X1_acceptsAmount_4 rfl ?_
    refine xV_bipush (v := (nI 9)) e_X1_acceptsAmount_5 (by decide) ?_
    refine xV_icmp_le e_X1_acceptsAmount_7 (fun h7 => ?_) (fun h7 => ?_)
    · refine xV_aload_n e_X1_acceptsAmount_12 rfl ?_
      refine xV_aload_n e_X1_acceptsAmount_13 rfl ?_
      refine xV_getU e_X1_acceptsAmount_14 f_X1_28 (by assumption) ?_
      refine xV_iload_n e_X1_acceptsAmount_17 rfl ?_
      refine xV_cS3v e_X1_acceptsAmount_18 c_X1_87 (C_X2_putB1 s1) (Nat.le_of_ble_eq_true rfl) ⟨(Nat.le_of_ble_eq_true rfl), (Nat.le_of_ble_eq_true rfl)⟩ (xle_r _) (xle_r _) ?_
      refine xV_iconst (v := (nI 1)) e_X1_acceptsAmount_21 (by decide) ?_
      exact xV_zreturn e_X1_acceptsAmount_22 rfl rfl rfl (by rw [rAm1, if_pos (by simp only [bAm, decide_eq_false h1, decide_eq_true h7]; decide)]; exact ⟨rfl, rfl, rfl, rfl⟩)
    · refine xV_iconst (v := (nI 0)) e_X1_acceptsAmount_10 (by decide) ?_
      exact xV_zreturn e_X1_acceptsAmount_11 rfl rfl rfl (by rw [rAm1, if_neg (by simp only [bAm, decide_eq_false h7, Bool.and_false]; decide)]; exact ⟨rfl, rfl, rfl, rfl⟩)
set_option maxHeartbeats 4000000 in
set_option maxRecDepth 100000 in
theorem C_X1_acceptsAmount2 {u f w1 w2 w3 w4 w5 : Nat → Int32} {q : Nat} (hq : RdS G T R q) {a : Int32} : xCon G Y_X1_acceptsAmount [.ref q, .ref (q + 1 + 2), .int a] T R L (pm (va_up I q u) (q + 1) (f, w1, w2, w3, w4, w5)) (xD (some (.int (xb (rAm2 a (u, (f, w1, w2, w3, w4, w5))).1))) T R L (pm (va_up I q (rAm2 a (u, (f, w1, w2, w3, w4, w5))).2.1) (q + 1) (rAm2 a (u, (f, w1, w2, w3, w4, w5))).2.2)) := by
  obtain ⟨z0, y0, hm⟩ := id hq
  obtain ⟨m0, r0, r1, r2, r3, r4, s1, s2, s3, s4, s5⟩ := id hm
  refine xCon.mk (xl := [some (.ref q), some (.ref (q + 1 + 2)), some (.int a)]) (by decide +kernel) (xle_r _) rfl (Nat.le_of_ble_eq_true rfl) rfl ?_
  refine xV_iload_n e_X1_acceptsAmount_0 rfl ?_
  refine xV_if_lt e_X1_acceptsAmount_1 (fun h1 => ?_) (fun h1 => ?_)
  · refine xV_iconst (v := (nI 0)) e_X1_acceptsAmount_10 (by decide) ?_
    exact xV_zreturn e_X1_acceptsAmount_11 rfl rfl rfl (by rw [rAm2, if_neg (by simp [bAm, h1])]; exact ⟨rfl, rfl, rfl, rfl⟩)
  · refine xV_iload_n e_X1_acceptsAmount_4 rfl ?_
    refine xV_bipush (v := (nI 9)) e_X1_acceptsAmount_5 (by decide) ?_
    refine xV_icmp_le e_X1_acceptsAmount_7 (fun h7 => ?_) (fun h7 => ?_)
    · refine xV_aload_n e_X1_acceptsAmount_12 rfl ?_
      refine xV_aload_n e_X1_acceptsAmount_13 rfl ?_
      refine xV_getU e_X1_acceptsAmount_14 f_X1_28 (by assumption) ?_
      refine xV_iload_n e_X1_acceptsAmount_17 rfl ?_
      refine xV_cS3v e_X1_acceptsAmount_18 c_X1_87 (C_X2_putB2 s2) (Nat.le_of_ble_eq_true rfl) ⟨(Nat.le_of_ble_eq_true rfl), (Nat.le_of_ble_eq_true rfl)⟩ (xle_r _) (xle_r _) ?_
      refine xV_iconst (v := (nI 1)) e_X1_acceptsAmount_21 (by decide) ?_
      exact xV_zreturn e_X1_acceptsAmount_22 rfl rfl rfl (by rw [rAm2, if_pos (by simp only [bAm, decide_eq_false h1, decide_eq_true h7]; decide)]; exact ⟨rfl, rfl, rfl, rfl⟩)
    · refine xV_iconst (v := (nI 0)) e_X1_acceptsAmount_10 (by decide) ?_
      exact xV_zreturn e_X1_acceptsAmount_11 rfl rfl rfl (by rw [rAm2, if_neg (by simp only [bAm, decide_eq_false h7, Bool.and_false]; decide)]; exact ⟨rfl, rfl, rfl, rfl⟩)
set_option maxHeartbeats 4000000 in
set_option maxRecDepth 100000 in
theorem C_X1_acceptsAmount3 {u f w1 w2 w3 w4 w5 : Nat → Int32} {q : Nat} (hq : RdS G T R q) {a : Int32} : xCon G Y_X1_acceptsAmount [.ref q, .ref (q + 1 + 3), .int a] T R L (pm (va_up I q u) (q + 1) (f, w1, w2, w3, w4, w5)) (xD (some (.int (xb (rAm3 a (u, (f, w1, w2, w3, w4, w5))).1))) T R L (pm (va_up I q (rAm3 a (u, (f, w1, w2, w3, w4, w5))).2.1) (q + 1) (rAm3 a (u, (f, w1, w2, w3, w4, w5))).2.2)) := by
  obtain ⟨z0, y0, hm⟩ := id hq
  obtain ⟨m0, r0, r1, r2, r3, r4, s1, s2, s3, s4, s5⟩ := id hm
  refine xCon.mk (xl := [some (.ref q), some (.ref (q + 1 + 3)), some (.int a)]) (by decide +kernel) (xle_r _) rfl (Nat.le_of_ble_eq_true rfl) rfl ?_
  refine xV_iload_n e_X1_acceptsAmount_0 rfl ?_
  refine xV_if_lt e_X1_acceptsAmount_1 (fun h1 => ?_) (fun h1 => ?_)
  · refine xV_iconst (v := (nI 0)) e_X1_acceptsAmount_10 (by decide) ?_
    exact xV_zreturn e_X1_acceptsAmount_11 rfl rfl rfl (by rw [rAm3, if_neg (by simp [bAm, h1])]; exact ⟨rfl, rfl, rfl, rfl⟩)
  · refine xV_iload_n e_X1_acceptsAmount_4 rfl ?_
    refine xV_bipush (v := (nI 9)) e_X1_acceptsAmount_5 (by decide) ?_
    refine xV_icmp_le e_X1_acceptsAmount_7 (fun h7 => ?_) (fun h7 => ?_)
    · refine xV_aload_n e_X1_acceptsAmount_12 rfl ?_
      refine xV_aload_n e_X1_acceptsAmount_13 rfl ?_
      refine xV_getU e_X1_acceptsAmount_14 f_X1_28 (by assumption) ?_
      refine xV_iload_n e_X1_acceptsAmount_17 rfl ?_
      refine xV_cS3v e_X1_acceptsAmount_18 c_X1_87 (C_X2_putB3 s3) (Nat.le_of_ble_eq_true rfl) ⟨(Nat.le_of_ble_eq_true rfl), (Nat.le_of_ble_eq_true rfl)⟩ (xle_r _) (xle_r _) ?_
      refine xV_iconst (v := (nI 1)) e_X1_acceptsAmount_21 (by decide) ?_
      exact xV_zreturn e_X1_acceptsAmount_22 rfl rfl rfl (by rw [rAm3, if_pos (by simp only [bAm, decide_eq_false h1, decide_eq_true h7]; decide)]; exact ⟨rfl, rfl, rfl, rfl⟩)
    · refine xV_iconst (v := (nI 0)) e_X1_acceptsAmount_10 (by decide) ?_
      exact xV_zreturn e_X1_acceptsAmount_11 rfl rfl rfl (by rw [rAm3, if_neg (by simp only [bAm, decide_eq_false h7, Bool.and_false]; decide)]; exact ⟨rfl, rfl, rfl, rfl⟩)
set_option maxHeartbeats 4000000 in
set_option maxRecDepth 100000 in
theorem C_X1_accepts {u f w1 w2 w3 w4 w5 : Nat → Int32} {q : Nat} (hq : RdS G T R q) {c : Int32} : xCon G Y_X1_accepts [.ref q, .int c] T R L (pm (va_up I q u) (q + 1) (f, w1, w2, w3, w4, w5)) (xD (some (.int (xb (rAcc c (u, (f, w1, w2, w3, w4, w5))).1))) T R L (pm (va_up I q (rAcc c (u, (f, w1, w2, w3, w4, w5))).2.1) (q + 1) (rAcc c (u, (f, w1, w2, w3, w4, w5))).2.2)) := by
  obtain ⟨z0, y0, hm⟩ := id hq
  obtain ⟨m0, r0, r1, r2, r3, r4, s1, s2, s3, s4, s5⟩ := id hm
  refine xCon.mk (xl := [some (.ref q), some (.int c)]) (by decide +kernel) (xle_r _) rfl (Nat.le_of_ble_eq_true rfl) rfl ?_
  refine xV_aload_n e_X1_accepts_0 rfl ?_
  refine xV_getU e_X1_accepts_1 f_X1_21 (by assumption) ?_
  by_cases s4_0 : u 1 = nI 0
  · refine xV_tswIn (off := 60) (tgt := 64) e_X1_accepts_4 (by rw [s4_0]; decide) (by rw [s4_0]; decide) (by rw [s4_0]; rfl) (by decide) ?_
    refine xV_iload_n e_X1_accepts_64 rfl ?_
    refine xV_bipush (v := (nI 77)) e_X1_accepts_65 (by decide) ?_
    refine xV_icmp_ne e_X1_accepts_67 (fun h67 => ?_) (fun h67 => ?_)
    · refine xV_iconst (v := (nI 0)) e_X1_accepts_82 (by decide) ?_
      exact xV_zreturn e_X1_accepts_83 rfl rfl rfl (by rw [rAcc, if_pos s4_0, if_neg h67]; exact ⟨rfl, rfl, rfl, rfl⟩)
    · refine xV_aload_n e_X1_accepts_70 rfl ?_
      refine xV_iconst (v := (nI 1)) e_X1_accepts_71 (by decide) ?_
      refine xV_cV1i e_X1_accepts_72 c_X1_31 (by assumption) (C_X1_goOn hq) (Nat.le_of_ble_eq_true rfl) ⟨(Nat.le_of_ble_eq_true rfl), (Nat.le_of_ble_eq_true rfl)⟩ (xle_r _) (xle_r _) ?_
      refine xV_if_eqB e_X1_accepts_75 (fun h75 => ?_) (fun h75 => ?_)
      · exact absurd (show true = false from h75) (by decide)
      · refine xV_iconst (v := (nI 1)) e_X1_accepts_78 (by decide) ?_
        refine xV_goto e_X1_accepts_79 ?_
        exact xV_zreturn e_X1_accepts_83 rfl rfl rfl (by rw [rAcc, if_pos s4_0, if_pos h67]; exact ⟨rfl, rfl, rfl, rfl⟩)
  by_cases s4_1 : u 1 = nI 1
  · refine xV_tswIn (off := 80) (tgt := 84) e_X1_accepts_4 (by rw [s4_1]; decide) (by rw [s4_1]; decide) (by rw [s4_1]; rfl) (by decide) ?_
    refine xV_aload_n e_X1_accepts_84 rfl ?_
    refine xV_iload_n e_X1_accepts_85 rfl ?_
    refine xV_cV1i e_X1_accepts_86 c_X1_35 (by assumption) (C_X1_acceptsHold hq) (Nat.le_of_ble_eq_true rfl) ⟨(Nat.le_of_ble_eq_true rfl), (Nat.le_of_ble_eq_true rfl)⟩ (xle_r _) (xle_r _) ?_
    exact xV_zreturn e_X1_accepts_89 rfl (xb_nar _) rfl (by rw [rAcc, if_neg s4_0, if_pos s4_1]; exact ⟨rfl, rfl, rfl, rfl⟩)
  by_cases s4_2 : u 1 = nI 2
  · refine xV_tswIn (off := 86) (tgt := 90) e_X1_accepts_4 (by rw [s4_2]; decide) (by rw [s4_2]; decide) (by rw [s4_2]; rfl) (by decide) ?_
    refine xV_aload_n e_X1_accepts_90 rfl ?_
    refine xV_iload_n e_X1_accepts_91 rfl ?_
    refine xV_cV1i e_X1_accepts_92 c_X1_38 (by assumption) (C_X1_acceptsPart hq) (Nat.le_of_ble_eq_true rfl) ⟨(Nat.le_of_ble_eq_true rfl), (Nat.le_of_ble_eq_true rfl)⟩ (xle_r _) (xle_r _) ?_
    exact xV_zreturn e_X1_accepts_95 rfl (xb_nar _) rfl (by rw [rAcc, if_neg s4_0, if_neg s4_1, if_pos s4_2]; exact ⟨rfl, rfl, rfl, rfl⟩)
  by_cases s4_3 : u 1 = nI 3
  · refine xV_tswIn (off := 92) (tgt := 96) e_X1_accepts_4 (by rw [s4_3]; decide) (by rw [s4_3]; decide) (by rw [s4_3]; rfl) (by decide) ?_
    refine xV_aload_n e_X1_accepts_96 rfl ?_
    refine xV_iload_n e_X1_accepts_97 rfl ?_
    refine xV_bipush (v := (nI 48)) e_X1_accepts_98 (by decide) ?_
    refine xV_isub e_X1_accepts_100 ?_
    refine xV_aload_n e_X1_accepts_101 rfl ?_
    refine xV_getU e_X1_accepts_102 f_X1_25 (by assumption) ?_
    refine xV_cV2i e_X1_accepts_105 c_X1_41 (by assumption) (C_X1_acceptsTens hq) (Nat.le_of_ble_eq_true rfl) ⟨(Nat.le_of_ble_eq_true rfl), (Nat.le_of_ble_eq_true rfl)⟩ (xle_r _) (xle_r _) ?_
    refine xV_if_eqB e_X1_accepts_108 (fun h108 => ?_) (fun h108 => ?_)
    · refine xV_iconst (v := (nI 0)) e_X1_accepts_123 (by decide) ?_
      exact xV_zreturn e_X1_accepts_124 rfl rfl rfl (by rw [rAcc, if_neg s4_0, if_neg s4_1, if_neg s4_2, if_pos s4_3, rThen, if_neg (by rw [h108]; decide)]; exact ⟨xret_f h108, rfl, rfl, rfl⟩)
    · refine xV_aload_n e_X1_accepts_111 rfl ?_
      refine xV_iconst (v := (nI 4)) e_X1_accepts_112 (by decide) ?_
      refine xV_cV1i e_X1_accepts_113 c_X1_31 (by assumption) (C_X1_goOn hq) (Nat.le_of_ble_eq_true rfl) ⟨(Nat.le_of_ble_eq_true rfl), (Nat.le_of_ble_eq_true rfl)⟩ (xle_r _) (xle_r _) ?_
      refine xV_if_eqB e_X1_accepts_116 (fun h116 => ?_) (fun h116 => ?_)
      · exact absurd (show true = false from h116) (by decide)
      · refine xV_iconst (v := (nI 1)) e_X1_accepts_119 (by decide) ?_
        refine xV_goto e_X1_accepts_120 ?_
        exact xV_zreturn e_X1_accepts_124 rfl rfl rfl (by rw [rAcc, if_neg s4_0, if_neg s4_1, if_neg s4_2, if_pos s4_3, rThen, if_pos h108]; exact ⟨rfl, rfl, rfl, rfl⟩)
  by_cases s4_4 : u 1 = nI 4
  · refine xV_tswIn (off := 121) (tgt := 125) e_X1_accepts_4 (by rw [s4_4]; decide) (by rw [s4_4]; decide) (by rw [s4_4]; rfl) (by decide) ?_
    refine xV_aload_n e_X1_accepts_125 rfl ?_
    refine xV_iload_n e_X1_accepts_126 rfl ?_
    refine xV_bipush (v := (nI 48)) e_X1_accepts_127 (by decide) ?_
    refine xV_isub e_X1_accepts_129 ?_
    refine xV_aload_n e_X1_accepts_130 rfl ?_
    refine xV_getU e_X1_accepts_131 f_X1_25 (by assumption) ?_
    refine xV_cV2i e_X1_accepts_134 c_X1_45 (by assumption) (C_X1_acceptsOnes hq) (Nat.le_of_ble_eq_true rfl) ⟨(Nat.le_of_ble_eq_true rfl), (Nat.le_of_ble_eq_true rfl)⟩ (xle_r _) (xle_r _) ?_
    refine xV_if_eqB e_X1_accepts_137 (fun h137 => ?_) (fun h137 => ?_)
    · refine xV_iconst (v := (nI 0)) e_X1_accepts_151 (by decide) ?_
      exact xV_zreturn e_X1_accepts_152 rfl rfl rfl (by rw [rAcc, if_neg s4_0, if_neg s4_1, if_neg s4_2, if_neg s4_3, if_pos s4_4, if_neg (by rw [h137]; decide)]; exact ⟨xret_f h137, rfl, rfl, rfl⟩)
    · refine xV_aload_n e_X1_accepts_140 rfl ?_
      refine xV_cV0i e_X1_accepts_141 c_X1_48 (by assumption) (C_X1_tell hq) (Nat.le_of_ble_eq_true rfl) ⟨(Nat.le_of_ble_eq_true rfl), (Nat.le_of_ble_eq_true rfl)⟩ (xle_r _) (xle_r _) ?_
      refine xV_if_eqB e_X1_accepts_144 (fun h144 => ?_) (fun h144 => ?_)
      · exact absurd (show true = false from h144) (by decide)
      · refine xV_iconst (v := (nI 1)) e_X1_accepts_147 (by decide) ?_
        refine xV_goto e_X1_accepts_148 ?_
        exact xV_zreturn e_X1_accepts_152 rfl rfl rfl (by rw [rAcc, if_neg s4_0, if_neg s4_1, if_neg s4_2, if_neg s4_3, if_pos s4_4, if_pos h137]; exact ⟨rfl, rfl, rfl, rfl⟩)
  by_cases s4_5 : u 1 = nI 5
  · refine xV_tswIn (off := 149) (tgt := 153) e_X1_accepts_4 (by rw [s4_5]; decide) (by rw [s4_5]; decide) (by rw [s4_5]; rfl) (by decide) ?_
    refine xV_aload_n e_X1_accepts_153 rfl ?_
    refine xV_aload_n e_X1_accepts_154 rfl ?_
    refine xV_getR e_X1_accepts_155 f_X1_12 (by assumption) (by assumption) ?_
    refine xV_getR e_X1_accepts_158 f_X1_52 (by assumption) (by assumption) ?_
    refine xV_iload_n e_X1_accepts_161 rfl ?_
    refine xV_bipush (v := (nI 48)) e_X1_accepts_162 (by decide) ?_
    refine xV_isub e_X1_accepts_164 ?_
    refine xV_cV2i e_X1_accepts_165 c_X1_56 (by assumption) (C_X1_acceptsAmount1 hq) (Nat.le_of_ble_eq_true rfl) ⟨(Nat.le_of_ble_eq_true rfl), (Nat.le_of_ble_eq_true rfl)⟩ (xle_r _) (xle_r _) ?_
    refine xV_if_eqB e_X1_accepts_168 (fun h168 => ?_) (fun h168 => ?_)
    · refine xV_iconst (v := (nI 0)) e_X1_accepts_184 (by decide) ?_
      exact xV_zreturn e_X1_accepts_185 rfl rfl rfl (by rw [rAcc, if_neg s4_0, if_neg s4_1, if_neg s4_2, if_neg s4_3, if_neg s4_4, if_pos s4_5, rThen, if_neg (by rw [h168]; decide)]; exact ⟨xret_f h168, rfl, rfl, rfl⟩)
    · refine xV_aload_n e_X1_accepts_171 rfl ?_
      refine xV_bipush (v := (nI 6)) e_X1_accepts_172 (by decide) ?_
      refine xV_cV1i e_X1_accepts_174 c_X1_31 (by assumption) (C_X1_goOn hq) (Nat.le_of_ble_eq_true rfl) ⟨(Nat.le_of_ble_eq_true rfl), (Nat.le_of_ble_eq_true rfl)⟩ (xle_r _) (xle_r _) ?_
      refine xV_if_eqB e_X1_accepts_177 (fun h177 => ?_) (fun h177 => ?_)
      · exact absurd (show true = false from h177) (by decide)
      · refine xV_iconst (v := (nI 1)) e_X1_accepts_180 (by decide) ?_
        refine xV_goto e_X1_accepts_181 ?_
        exact xV_zreturn e_X1_accepts_185 rfl rfl rfl (by rw [rAcc, if_neg s4_0, if_neg s4_1, if_neg s4_2, if_neg s4_3, if_neg s4_4, if_pos s4_5, rThen, if_pos h168]; exact ⟨rfl, rfl, rfl, rfl⟩)
  by_cases s4_6 : u 1 = nI 6
  · refine xV_tswIn (off := 182) (tgt := 186) e_X1_accepts_4 (by rw [s4_6]; decide) (by rw [s4_6]; decide) (by rw [s4_6]; rfl) (by decide) ?_
    refine xV_aload_n e_X1_accepts_186 rfl ?_
    refine xV_aload_n e_X1_accepts_187 rfl ?_
    refine xV_getR e_X1_accepts_188 f_X1_12 (by assumption) (by assumption) ?_
    refine xV_getR e_X1_accepts_191 f_X1_60 (by assumption) (by assumption) ?_
    refine xV_iload_n e_X1_accepts_194 rfl ?_
    refine xV_bipush (v := (nI 48)) e_X1_accepts_195 (by decide) ?_
    refine xV_isub e_X1_accepts_197 ?_
    refine xV_cV2i e_X1_accepts_198 c_X1_56 (by assumption) (C_X1_acceptsAmount2 hq) (Nat.le_of_ble_eq_true rfl) ⟨(Nat.le_of_ble_eq_true rfl), (Nat.le_of_ble_eq_true rfl)⟩ (xle_r _) (xle_r _) ?_
    refine xV_if_eqB e_X1_accepts_201 (fun h201 => ?_) (fun h201 => ?_)
    · refine xV_iconst (v := (nI 0)) e_X1_accepts_217 (by decide) ?_
      exact xV_zreturn e_X1_accepts_218 rfl rfl rfl (by rw [rAcc, if_neg s4_0, if_neg s4_1, if_neg s4_2, if_neg s4_3, if_neg s4_4, if_neg s4_5, if_pos s4_6, rThen, if_neg (by rw [h201]; decide)]; exact ⟨xret_f h201, rfl, rfl, rfl⟩)
    · refine xV_aload_n e_X1_accepts_204 rfl ?_
      refine xV_bipush (v := (nI 7)) e_X1_accepts_205 (by decide) ?_
      refine xV_cV1i e_X1_accepts_207 c_X1_31 (by assumption) (C_X1_goOn hq) (Nat.le_of_ble_eq_true rfl) ⟨(Nat.le_of_ble_eq_true rfl), (Nat.le_of_ble_eq_true rfl)⟩ (xle_r _) (xle_r _) ?_
      refine xV_if_eqB e_X1_accepts_210 (fun h210 => ?_) (fun h210 => ?_)
      · exact absurd (show true = false from h210) (by decide)
      · refine xV_iconst (v := (nI 1)) e_X1_accepts_213 (by decide) ?_
        refine xV_goto e_X1_accepts_214 ?_
        exact xV_zreturn e_X1_accepts_218 rfl rfl rfl (by rw [rAcc, if_neg s4_0, if_neg s4_1, if_neg s4_2, if_neg s4_3, if_neg s4_4, if_neg s4_5, if_pos s4_6, rThen, if_pos h201]; exact ⟨rfl, rfl, rfl, rfl⟩)
  by_cases s4_7 : u 1 = nI 7
  · refine xV_tswIn (off := 215) (tgt := 219) e_X1_accepts_4 (by rw [s4_7]; decide) (by rw [s4_7]; decide) (by rw [s4_7]; rfl) (by decide) ?_
    refine xV_aload_n e_X1_accepts_219 rfl ?_
    refine xV_aload_n e_X1_accepts_220 rfl ?_
    refine xV_getR e_X1_accepts_221 f_X1_12 (by assumption) (by assumption) ?_
    refine xV_getR e_X1_accepts_224 f_X1_63 (by assumption) (by assumption) ?_
    refine xV_iload_n e_X1_accepts_227 rfl ?_
    refine xV_bipush (v := (nI 48)) e_X1_accepts_228 (by decide) ?_
    refine xV_isub e_X1_accepts_230 ?_
    refine xV_cV2i e_X1_accepts_231 c_X1_56 (by assumption) (C_X1_acceptsAmount3 hq) (Nat.le_of_ble_eq_true rfl) ⟨(Nat.le_of_ble_eq_true rfl), (Nat.le_of_ble_eq_true rfl)⟩ (xle_r _) (xle_r _) ?_
    refine xV_if_eqB e_X1_accepts_234 (fun h234 => ?_) (fun h234 => ?_)
    · refine xV_iconst (v := (nI 0)) e_X1_accepts_249 (by decide) ?_
      exact xV_zreturn e_X1_accepts_250 rfl rfl rfl (by rw [rAcc, if_neg s4_0, if_neg s4_1, if_neg s4_2, if_neg s4_3, if_neg s4_4, if_neg s4_5, if_neg s4_6, if_pos s4_7, rThen, if_neg (by rw [h234]; decide)]; exact ⟨xret_f h234, rfl, rfl, rfl⟩)
    · refine xV_aload_n e_X1_accepts_237 rfl ?_
      refine xV_iconst (v := (nI 2)) e_X1_accepts_238 (by decide) ?_
      refine xV_cV1i e_X1_accepts_239 c_X1_31 (by assumption) (C_X1_goOn hq) (Nat.le_of_ble_eq_true rfl) ⟨(Nat.le_of_ble_eq_true rfl), (Nat.le_of_ble_eq_true rfl)⟩ (xle_r _) (xle_r _) ?_
      refine xV_if_eqB e_X1_accepts_242 (fun h242 => ?_) (fun h242 => ?_)
      · exact absurd (show true = false from h242) (by decide)
      · refine xV_iconst (v := (nI 1)) e_X1_accepts_245 (by decide) ?_
        refine xV_goto e_X1_accepts_246 ?_
        exact xV_zreturn e_X1_accepts_250 rfl rfl rfl (by rw [rAcc, if_neg s4_0, if_neg s4_1, if_neg s4_2, if_neg s4_3, if_neg s4_4, if_neg s4_5, if_neg s4_6, if_pos s4_7, rThen, if_pos h234]; exact ⟨rfl, rfl, rfl, rfl⟩)
  by_cases s4_8 : u 1 = nI 8
  · refine xV_tswIn (off := 247) (tgt := 251) e_X1_accepts_4 (by rw [s4_8]; decide) (by rw [s4_8]; decide) (by rw [s4_8]; rfl) (by decide) ?_
    refine xV_aload_n e_X1_accepts_251 rfl ?_
    refine xV_iload_n e_X1_accepts_252 rfl ?_
    refine xV_bipush (v := (nI 48)) e_X1_accepts_253 (by decide) ?_
    refine xV_isub e_X1_accepts_255 ?_
    refine xV_iconst (v := (nI 0)) e_X1_accepts_256 (by decide) ?_
    refine xV_cV2i e_X1_accepts_257 c_X1_41 (by assumption) (C_X1_acceptsTens hq) (Nat.le_of_ble_eq_true rfl) ⟨(Nat.le_of_ble_eq_true rfl), (Nat.le_of_ble_eq_true rfl)⟩ (xle_r _) (xle_r _) ?_
    refine xV_if_eqB e_X1_accepts_260 (fun h260 => ?_) (fun h260 => ?_)
    · refine xV_iconst (v := (nI 0)) e_X1_accepts_276 (by decide) ?_
      exact xV_zreturn e_X1_accepts_277 rfl rfl rfl (by rw [rAcc, if_neg s4_0, if_neg s4_1, if_neg s4_2, if_neg s4_3, if_neg s4_4, if_neg s4_5, if_neg s4_6, if_neg s4_7, if_pos s4_8, rThen, if_neg (by rw [h260]; decide)]; exact ⟨xret_f h260, rfl, rfl, rfl⟩)
    · refine xV_aload_n e_X1_accepts_263 rfl ?_
      refine xV_bipush (v := (nI 9)) e_X1_accepts_264 (by decide) ?_
      refine xV_cV1i e_X1_accepts_266 c_X1_31 (by assumption) (C_X1_goOn hq) (Nat.le_of_ble_eq_true rfl) ⟨(Nat.le_of_ble_eq_true rfl), (Nat.le_of_ble_eq_true rfl)⟩ (xle_r _) (xle_r _) ?_
      refine xV_if_eqB e_X1_accepts_269 (fun h269 => ?_) (fun h269 => ?_)
      · exact absurd (show true = false from h269) (by decide)
      · refine xV_iconst (v := (nI 1)) e_X1_accepts_272 (by decide) ?_
        refine xV_goto e_X1_accepts_273 ?_
        exact xV_zreturn e_X1_accepts_277 rfl rfl rfl (by rw [rAcc, if_neg s4_0, if_neg s4_1, if_neg s4_2, if_neg s4_3, if_neg s4_4, if_neg s4_5, if_neg s4_6, if_neg s4_7, if_pos s4_8, rThen, if_pos h260]; exact ⟨rfl, rfl, rfl, rfl⟩)
  by_cases s4_9 : u 1 = nI 9
  · refine xV_tswIn (off := 274) (tgt := 278) e_X1_accepts_4 (by rw [s4_9]; decide) (by rw [s4_9]; decide) (by rw [s4_9]; rfl) (by decide) ?_
    refine xV_aload_n e_X1_accepts_278 rfl ?_
    refine xV_iload_n e_X1_accepts_279 rfl ?_
    refine xV_bipush (v := (nI 48)) e_X1_accepts_280 (by decide) ?_
    refine xV_isub e_X1_accepts_282 ?_
    refine xV_iconst (v := (nI 0)) e_X1_accepts_283 (by decide) ?_
    refine xV_cV2i e_X1_accepts_284 c_X1_45 (by assumption) (C_X1_acceptsOnes hq) (Nat.le_of_ble_eq_true rfl) ⟨(Nat.le_of_ble_eq_true rfl), (Nat.le_of_ble_eq_true rfl)⟩ (xle_r _) (xle_r _) ?_
    refine xV_if_eqB e_X1_accepts_287 (fun h287 => ?_) (fun h287 => ?_)
    · refine xV_iconst (v := (nI 0)) e_X1_accepts_303 (by decide) ?_
      exact xV_zreturn e_X1_accepts_304 rfl rfl rfl (by rw [rAcc, if_neg s4_0, if_neg s4_1, if_neg s4_2, if_neg s4_3, if_neg s4_4, if_neg s4_5, if_neg s4_6, if_neg s4_7, if_neg s4_8, if_pos s4_9, rThen, if_neg (by rw [h287]; decide)]; exact ⟨xret_f h287, rfl, rfl, rfl⟩)
    · refine xV_aload_n e_X1_accepts_290 rfl ?_
      refine xV_bipush (v := (nI 10)) e_X1_accepts_291 (by decide) ?_
      refine xV_cV1i e_X1_accepts_293 c_X1_31 (by assumption) (C_X1_goOn hq) (Nat.le_of_ble_eq_true rfl) ⟨(Nat.le_of_ble_eq_true rfl), (Nat.le_of_ble_eq_true rfl)⟩ (xle_r _) (xle_r _) ?_
      refine xV_if_eqB e_X1_accepts_296 (fun h296 => ?_) (fun h296 => ?_)
      · exact absurd (show true = false from h296) (by decide)
      · refine xV_iconst (v := (nI 1)) e_X1_accepts_299 (by decide) ?_
        refine xV_goto e_X1_accepts_300 ?_
        exact xV_zreturn e_X1_accepts_304 rfl rfl rfl (by rw [rAcc, if_neg s4_0, if_neg s4_1, if_neg s4_2, if_neg s4_3, if_neg s4_4, if_neg s4_5, if_neg s4_6, if_neg s4_7, if_neg s4_8, if_pos s4_9, rThen, if_pos h287]; exact ⟨rfl, rfl, rfl, rfl⟩)
  by_cases s4_10 : u 1 = nI 10
  · refine xV_tswIn (off := 301) (tgt := 305) e_X1_accepts_4 (by rw [s4_10]; decide) (by rw [s4_10]; decide) (by rw [s4_10]; rfl) (by decide) ?_
    refine xV_aload_n e_X1_accepts_305 rfl ?_
    refine xV_iload_n e_X1_accepts_306 rfl ?_
    refine xV_bipush (v := (nI 48)) e_X1_accepts_307 (by decide) ?_
    refine xV_isub e_X1_accepts_309 ?_
    refine xV_cV1i e_X1_accepts_310 c_X1_66 (by assumption) (C_X1_acceptsSect hq) (Nat.le_of_ble_eq_true rfl) ⟨(Nat.le_of_ble_eq_true rfl), (Nat.le_of_ble_eq_true rfl)⟩ (xle_r _) (xle_r _) ?_
    exact xV_zreturn e_X1_accepts_313 rfl (xb_nar _) rfl (by rw [rAcc, if_neg s4_0, if_neg s4_1, if_neg s4_2, if_neg s4_3, if_neg s4_4, if_neg s4_5, if_neg s4_6, if_neg s4_7, if_neg s4_8, if_neg s4_9, if_pos s4_10]; exact ⟨rfl, rfl, rfl, rfl⟩)
  refine xV_tswOut (tgt := 314) e_X1_accepts_4 (tsw_out (n := 10) (by decide) (fun k hk => by
    have e : k = 0 ∨ k = 1 ∨ k = 2 ∨ k = 3 ∨ k = 4 ∨ k = 5 ∨ k = 6 ∨ k = 7 ∨ k = 8 ∨ k = 9 ∨ k = 10 := by omega
    rcases e with rfl | rfl | rfl | rfl | rfl | rfl | rfl | rfl | rfl | rfl | rfl <;> assumption)) (by decide) ?_
  refine xV_iconst (v := (nI 0)) e_X1_accepts_314 (by decide) ?_
  exact xV_zreturn e_X1_accepts_315 rfl rfl rfl (by rw [rAcc, if_neg s4_0, if_neg s4_1, if_neg s4_2, if_neg s4_3, if_neg s4_4, if_neg s4_5, if_neg s4_6, if_neg s4_7, if_neg s4_8, if_neg s4_9, if_neg s4_10]; exact ⟨rfl, rfl, rfl, rfl⟩)
end XRDR
