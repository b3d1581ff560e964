/-! A MINE: its object and its five rows at h .. h + 5, told as one value -/
abbrev xS : Type := (Nat → Int32) × (Nat → Int32) × (Nat → Int32) × (Nat → Int32) × (Nat → Int32) × (Nat → Int32)
def mS (I : xI) (h : Nat) : xS := (I h, I (h + 1), I (h + 2), I (h + 3), I (h + 4), I (h + 5))
def pm (I : xI) (h : Nat) (S : xS) : xI := fun a => if a = h then S.1 else if a = h + 1 then S.2.1 else if a = h + 2 then S.2.2.1 else if a = h + 3 then S.2.2.2.1 else if a = h + 4 then S.2.2.2.2.1 else if a = h + 5 then S.2.2.2.2.2 else I a
def MinS (G : xG) (T : xT) (R : xR) (h : Nat) : Prop := (xSh G T h).1 = 0 ∧ R h 0 = some (h + 1) ∧ R h 1 = some (h + 2) ∧ R h 2 = some (h + 3) ∧ R h 3 = some (h + 4) ∧ R h 4 = some (h + 5) ∧
  xSh G T (h + 1) = (4, 12) ∧ xSh G T (h + 2) = (4, 12) ∧ xSh G T (h + 3) = (4, 12) ∧ xSh G T (h + 4) = (4, 12) ∧ xSh G T (h + 5) = (4, 4)
section XM
variable {G : xG} {Y : xY} {Tb : xT} {o : xO} {pc pc' idx : Nat} {xl : List (Option Value)} {st : List Value} {T : xT} {R : xR} {L : xL} {I : xI} {h : Nat} {S S' : xS} {f w1 w2 w3 w4 w5 : Nat → Int32}
theorem pm_0 : pm I h S h = S.1 := by simp [pm]
theorem pm_1 : pm I h S (h + 1) = S.2.1 := by simp [pm]
theorem pm_2 : pm I h S (h + 2) = S.2.2.1 := by simp [pm]
theorem pm_3 : pm I h S (h + 3) = S.2.2.2.1 := by simp [pm]
theorem pm_4 : pm I h S (h + 4) = S.2.2.2.2.1 := by simp [pm]
theorem pm_5 : pm I h S (h + 5) = S.2.2.2.2.2 := by simp [pm]
theorem pm_o {a : Nat} (ha : a < h ∨ h + 6 ≤ a) : pm I h S a = I a := by
  unfold pm
  rw [if_neg (by omega), if_neg (by omega), if_neg (by omega), if_neg (by omega), if_neg (by omega), if_neg (by omega)]
theorem mS_pm : mS (pm I h S) h = S := by simp only [mS, pm_0, pm_1, pm_2, pm_3, pm_4, pm_5]
theorem mS_pmo {h2 : Nat} (hd : h2 + 6 ≤ h ∨ h + 6 ≤ h2) : mS (pm I h S) h2 = mS I h2 := by
  unfold mS
  rw [pm_o (by omega), pm_o (by omega), pm_o (by omega), pm_o (by omega), pm_o (by omega), pm_o (by omega)]
theorem pm_cases (P : Nat → Prop) {a : Nat} (h0 : P h) (h1 : P (h + 1)) (h2 : P (h + 2)) (h3 : P (h + 3)) (h4 : P (h + 4)) (h5 : P (h + 5)) (ho : a < h ∨ h + 6 ≤ a → P a) : P a := by
  by_cases e0 : a = h
  · rw [e0]; exact h0
  by_cases e1 : a = h + 1
  · rw [e1]; exact h1
  by_cases e2 : a = h + 2
  · rw [e2]; exact h2
  by_cases e3 : a = h + 3
  · rw [e3]; exact h3
  by_cases e4 : a = h + 4
  · rw [e4]; exact h4
  by_cases e5 : a = h + 5
  · rw [e5]; exact h5
  exact ho (by omega)
theorem pm_self : pm I h (mS I h) = I := by
  funext a
  refine pm_cases (h := h) (fun a => pm I h (mS I h) a = I a) ?_ ?_ ?_ ?_ ?_ ?_ (fun ha => pm_o ha)
  all_goals simp only [pm_0, pm_1, pm_2, pm_3, pm_4, pm_5, mS]
theorem pm_pm : pm (pm I h S) h S' = pm I h S' := by
  funext a
  refine pm_cases (h := h) (fun a => pm (pm I h S) h S' a = pm I h S' a) ?_ ?_ ?_ ?_ ?_ ?_ (fun ha => by rw [pm_o ha, pm_o ha, pm_o ha])
  all_goals simp only [pm_0, pm_1, pm_2, pm_3, pm_4, pm_5]
theorem pm_comm {h2 : Nat} (hd : h2 + 6 ≤ h ∨ h + 6 ≤ h2) : pm (pm I h S) h2 S' = pm (pm I h2 S') h S := by
  funext a
  refine pm_cases (h := h) (fun a => pm (pm I h S) h2 S' a = pm (pm I h2 S') h S a) ?_ ?_ ?_ ?_ ?_ ?_ (fun ha => ?_)
  · rw [pm_o (by omega), pm_0, pm_0]
  · rw [pm_o (by omega), pm_1, pm_1]
  · rw [pm_o (by omega), pm_2, pm_2]
  · rw [pm_o (by omega), pm_3, pm_3]
  · rw [pm_o (by omega), pm_4, pm_4]
  · rw [pm_o (by omega), pm_5, pm_5]
  · rw [pm_o (h := h) ha]
    refine pm_cases (h := h2) (fun b => (b < h ∨ h + 6 ≤ b) → pm (pm I h S) h2 S' b = pm I h2 S' b) ?_ ?_ ?_ ?_ ?_ ?_ (fun hb hb2 => ?_) ha
    · intro _; rw [pm_0, pm_0]
    · intro _; rw [pm_1, pm_1]
    · intro _; rw [pm_2, pm_2]
    · intro _; rw [pm_3, pm_3]
    · intro _; rw [pm_4, pm_4]
    · intro _; rw [pm_5, pm_5]
    · rw [pm_o hb, pm_o hb, pm_o hb2]
theorem va_up_s {α : Type} {f : Nat → α} {k : Nat} {v : α} : va_up f k v k = v := by simp [va_up]
theorem va_up_n {α : Type} {f : Nat → α} {k j : Nat} {v : α} (hj : j ≠ k) : va_up f k v j = f j := by simp [va_up, hj]
theorem pm_va {a : Nat} {x : Nat → Int32} (ha : a < h ∨ h + 6 ≤ a) : va_up (pm I h S) a x = pm (va_up I a x) h S := by
  funext b
  refine pm_cases (h := h) (fun b => va_up (pm I h S) a x b = pm (va_up I a x) h S b) ?_ ?_ ?_ ?_ ?_ ?_ (fun hb => ?_)
  · rw [va_up_n (by omega), pm_0, pm_0]
  · rw [va_up_n (by omega), pm_1, pm_1]
  · rw [va_up_n (by omega), pm_2, pm_2]
  · rw [va_up_n (by omega), pm_3, pm_3]
  · rw [va_up_n (by omega), pm_4, pm_4]
  · rw [va_up_n (by omega), pm_5, pm_5]
  · rw [pm_o hb]
    by_cases e : b = a
    · subst e; rw [va_up_s, va_up_s]
    · rw [va_up_n e, va_up_n e, pm_o hb]
theorem pm_va0 {x : Nat → Int32} : va_up (pm I h (f, w1, w2, w3, w4, w5)) h x = pm I h (x, w1, w2, w3, w4, w5) := by
  funext b
  refine pm_cases (h := h) (fun b => va_up (pm I h (f, w1, w2, w3, w4, w5)) h x b = pm I h (x, w1, w2, w3, w4, w5) b) ?_ ?_ ?_ ?_ ?_ ?_ (fun hb => by rw [va_up_n (by omega), pm_o hb, pm_o hb])
  · rw [va_up_s, pm_0]
  · rw [va_up_n (by omega), pm_1, pm_1]
  · rw [va_up_n (by omega), pm_2, pm_2]
  · rw [va_up_n (by omega), pm_3, pm_3]
  · rw [va_up_n (by omega), pm_4, pm_4]
  · rw [va_up_n (by omega), pm_5, pm_5]
theorem pm_st0 {k : Nat} {x : Int32} : xst (pm I h (f, w1, w2, w3, w4, w5)) h k x = pm I h (upd f k x, w1, w2, w3, w4, w5) := by
  unfold xst
  rw [pm_0, pm_va0]
theorem pm_va1 {x : Nat → Int32} : va_up (pm I h (f, w1, w2, w3, w4, w5)) (h + 1) x = pm I h (f, x, w2, w3, w4, w5) := by
  funext b
  refine pm_cases (h := h) (fun b => va_up (pm I h (f, w1, w2, w3, w4, w5)) (h + 1) x b = pm I h (f, x, w2, w3, w4, w5) b) ?_ ?_ ?_ ?_ ?_ ?_ (fun hb => by rw [va_up_n (by omega), pm_o hb, pm_o hb])
  · rw [va_up_n (by omega), pm_0, pm_0]
  · rw [va_up_s, pm_1]
  · rw [va_up_n (by omega), pm_2, pm_2]
  · rw [va_up_n (by omega), pm_3, pm_3]
  · rw [va_up_n (by omega), pm_4, pm_4]
  · rw [va_up_n (by omega), pm_5, pm_5]
theorem pm_st1 {k : Nat} {x : Int32} : xst (pm I h (f, w1, w2, w3, w4, w5)) (h + 1) k x = pm I h (f, upd w1 k x, w2, w3, w4, w5) := by
  unfold xst
  rw [pm_1, pm_va1]
theorem pm_va2 {x : Nat → Int32} : va_up (pm I h (f, w1, w2, w3, w4, w5)) (h + 2) x = pm I h (f, w1, x, w3, w4, w5) := by
  funext b
  refine pm_cases (h := h) (fun b => va_up (pm I h (f, w1, w2, w3, w4, w5)) (h + 2) x b = pm I h (f, w1, x, w3, w4, w5) b) ?_ ?_ ?_ ?_ ?_ ?_ (fun hb => by rw [va_up_n (by omega), pm_o hb, pm_o hb])
  · rw [va_up_n (by omega), pm_0, pm_0]
  · rw [va_up_n (by omega), pm_1, pm_1]
  · rw [va_up_s, pm_2]
  · rw [va_up_n (by omega), pm_3, pm_3]
  · rw [va_up_n (by omega), pm_4, pm_4]
  · rw [va_up_n (by omega), pm_5, pm_5]
theorem pm_st2 {k : Nat} {x : Int32} : xst (pm I h (f, w1, w2, w3, w4, w5)) (h + 2) k x = pm I h (f, w1, upd w2 k x, w3, w4, w5) := by
  unfold xst
  rw [pm_2, pm_va2]
theorem pm_va3 {x : Nat → Int32} : va_up (pm I h (f, w1, w2, w3, w4, w5)) (h + 3) x = pm I h (f, w1, w2, x, w4, w5) := by
  funext b
  refine pm_cases (h := h) (fun b => va_up (pm I h (f, w1, w2, w3, w4, w5)) (h + 3) x b = pm I h (f, w1, w2, x, w4, w5) b) ?_ ?_ ?_ ?_ ?_ ?_ (fun hb => by rw [va_up_n (by omega), pm_o hb, pm_o hb])
  · rw [va_up_n (by omega), pm_0, pm_0]
  · rw [va_up_n (by omega), pm_1, pm_1]
  · rw [va_up_n (by omega), pm_2, pm_2]
  · rw [va_up_s, pm_3]
  · rw [va_up_n (by omega), pm_4, pm_4]
  · rw [va_up_n (by omega), pm_5, pm_5]
theorem pm_st3 {k : Nat} {x : Int32} : xst (pm I h (f, w1, w2, w3, w4, w5)) (h + 3) k x = pm I h (f, w1, w2, upd w3 k x, w4, w5) := by
  unfold xst
  rw [pm_3, pm_va3]
theorem pm_va4 {x : Nat → Int32} : va_up (pm I h (f, w1, w2, w3, w4, w5)) (h + 4) x = pm I h (f, w1, w2, w3, x, w5) := by
  funext b
  refine pm_cases (h := h) (fun b => va_up (pm I h (f, w1, w2, w3, w4, w5)) (h + 4) x b = pm I h (f, w1, w2, w3, x, w5) b) ?_ ?_ ?_ ?_ ?_ ?_ (fun hb => by rw [va_up_n (by omega), pm_o hb, pm_o hb])
  · rw [va_up_n (by omega), pm_0, pm_0]
  · rw [va_up_n (by omega), pm_1, pm_1]
  · rw [va_up_n (by omega), pm_2, pm_2]
  · rw [va_up_n (by omega), pm_3, pm_3]
  · rw [va_up_s, pm_4]
  · rw [va_up_n (by omega), pm_5, pm_5]
theorem pm_st4 {k : Nat} {x : Int32} : xst (pm I h (f, w1, w2, w3, w4, w5)) (h + 4) k x = pm I h (f, w1, w2, w3, upd w4 k x, w5) := by
  unfold xst
  rw [pm_4, pm_va4]
theorem pm_va5 {x : Nat → Int32} : va_up (pm I h (f, w1, w2, w3, w4, w5)) (h + 5) x = pm I h (f, w1, w2, w3, w4, x) := by
  funext b
  refine pm_cases (h := h) (fun b => va_up (pm I h (f, w1, w2, w3, w4, w5)) (h + 5) x b = pm I h (f, w1, w2, w3, w4, x) b) ?_ ?_ ?_ ?_ ?_ ?_ (fun hb => by rw [va_up_n (by omega), pm_o hb, pm_o hb])
  · rw [va_up_n (by omega), pm_0, pm_0]
  · rw [va_up_n (by omega), pm_1, pm_1]
  · rw [va_up_n (by omega), pm_2, pm_2]
  · rw [va_up_n (by omega), pm_3, pm_3]
  · rw [va_up_n (by omega), pm_4, pm_4]
  · rw [va_up_s, pm_5]
theorem pm_st5 {k : Nat} {x : Int32} : xst (pm I h (f, w1, w2, w3, w4, w5)) (h + 5) k x = pm I h (f, w1, w2, w3, w4, upd w5 k x) := by
  unfold xst
  rw [pm_5, pm_va5]
theorem xV_getF {k0 : Nat} (hd : decode Y.2.1 pc = .ok (.getfield idx, 3) ∧ pc + 3 = pc') (hf : xFL Y.1.cls idx 0 k0 0) (hs : (xSh G T h).1 = 0) (k : xV G Y Tb o pc' xl (.int (f k0) :: st) T R L (pm I h (f, w1, w2, w3, w4, w5))) : xV G Y Tb o pc xl (.ref h :: st) T R L (pm I h (f, w1, w2, w3, w4, w5)) :=
  xV_getI hd hf hs (by rw [pm_0]; exact k)
theorem xV_putF {k0 : Nat} {x : Int32} (hd : decode Y.2.1 pc = .ok (.putfield idx, 3) ∧ pc + 3 = pc') (hf : xFP Y.1.cls idx 0 k0 0 false .int) (hs : (xSh G T h).1 = 0) (k : xV G Y Tb o pc' xl st T R L (pm I h (upd f k0 x, w1, w2, w3, w4, w5))) : xV G Y Tb o pc xl (.int x :: .ref h :: st) T R L (pm I h (f, w1, w2, w3, w4, w5)) :=
  xV_putI hd hf hs (by rw [pm_st0]; exact k)
theorem xRow.p1 {n : Nat} (hs : xSh G T (h + 1) = (4, n)) : xRow G T (pm I h (f, w1, w2, w3, w4, w5)) (h + 1) n w1 := Or.inl ⟨hs, (pm_1 (I := I) (h := h) (S := (f, w1, w2, w3, w4, w5))).symm⟩
theorem xV_iast1 {n k : Nat} {x : Int32} (hd : decode Y.2.1 pc = .ok (.iastore, 1) ∧ pc + 1 = pc') (hs : xSh G T (h + 1) = (4, n)) (hk : k < n) (hn : n < 2 ^ 31) (kk : xV G Y Tb o pc' xl st T R L (pm I h (f, upd w1 k x, w2, w3, w4, w5))) : xV G Y Tb o pc xl (.int x :: .int (nI k) :: .ref (h + 1) :: st) T R L (pm I h (f, w1, w2, w3, w4, w5)) :=
  xV_iastN hd hs hk hn (by rw [pm_st1]; exact kk)
theorem xRow.p2 {n : Nat} (hs : xSh G T (h + 2) = (4, n)) : xRow G T (pm I h (f, w1, w2, w3, w4, w5)) (h + 2) n w2 := Or.inl ⟨hs, (pm_2 (I := I) (h := h) (S := (f, w1, w2, w3, w4, w5))).symm⟩
theorem xV_iast2 {n k : Nat} {x : Int32} (hd : decode Y.2.1 pc = .ok (.iastore, 1) ∧ pc + 1 = pc') (hs : xSh G T (h + 2) = (4, n)) (hk : k < n) (hn : n < 2 ^ 31) (kk : xV G Y Tb o pc' xl st T R L (pm I h (f, w1, upd w2 k x, w3, w4, w5))) : xV G Y Tb o pc xl (.int x :: .int (nI k) :: .ref (h + 2) :: st) T R L (pm I h (f, w1, w2, w3, w4, w5)) :=
  xV_iastN hd hs hk hn (by rw [pm_st2]; exact kk)
theorem xRow.p3 {n : Nat} (hs : xSh G T (h + 3) = (4, n)) : xRow G T (pm I h (f, w1, w2, w3, w4, w5)) (h + 3) n w3 := Or.inl ⟨hs, (pm_3 (I := I) (h := h) (S := (f, w1, w2, w3, w4, w5))).symm⟩
theorem xV_iast3 {n k : Nat} {x : Int32} (hd : decode Y.2.1 pc = .ok (.iastore, 1) ∧ pc + 1 = pc') (hs : xSh G T (h + 3) = (4, n)) (hk : k < n) (hn : n < 2 ^ 31) (kk : xV G Y Tb o pc' xl st T R L (pm I h (f, w1, w2, upd w3 k x, w4, w5))) : xV G Y Tb o pc xl (.int x :: .int (nI k) :: .ref (h + 3) :: st) T R L (pm I h (f, w1, w2, w3, w4, w5)) :=
  xV_iastN hd hs hk hn (by rw [pm_st3]; exact kk)
theorem xRow.p4 {n : Nat} (hs : xSh G T (h + 4) = (4, n)) : xRow G T (pm I h (f, w1, w2, w3, w4, w5)) (h + 4) n w4 := Or.inl ⟨hs, (pm_4 (I := I) (h := h) (S := (f, w1, w2, w3, w4, w5))).symm⟩
theorem xV_iast4 {n k : Nat} {x : Int32} (hd : decode Y.2.1 pc = .ok (.iastore, 1) ∧ pc + 1 = pc') (hs : xSh G T (h + 4) = (4, n)) (hk : k < n) (hn : n < 2 ^ 31) (kk : xV G Y Tb o pc' xl st T R L (pm I h (f, w1, w2, w3, upd w4 k x, w5))) : xV G Y Tb o pc xl (.int x :: .int (nI k) :: .ref (h + 4) :: st) T R L (pm I h (f, w1, w2, w3, w4, w5)) :=
  xV_iastN hd hs hk hn (by rw [pm_st4]; exact kk)
theorem xRow.p5 {n : Nat} (hs : xSh G T (h + 5) = (4, n)) : xRow G T (pm I h (f, w1, w2, w3, w4, w5)) (h + 5) n w5 := Or.inl ⟨hs, (pm_5 (I := I) (h := h) (S := (f, w1, w2, w3, w4, w5))).symm⟩
theorem xV_iast5 {n k : Nat} {x : Int32} (hd : decode Y.2.1 pc = .ok (.iastore, 1) ∧ pc + 1 = pc') (hs : xSh G T (h + 5) = (4, n)) (hk : k < n) (hn : n < 2 ^ 31) (kk : xV G Y Tb o pc' xl st T R L (pm I h (f, w1, w2, w3, w4, upd w5 k x))) : xV G Y Tb o pc xl (.int x :: .int (nI k) :: .ref (h + 5) :: st) T R L (pm I h (f, w1, w2, w3, w4, w5)) :=
  xV_iastN hd hs hk hn (by rw [pm_st5]; exact kk)
end XM
