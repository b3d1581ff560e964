/-! THE TWO SIDES: a mine of the class, a page of the Model -/
section XRA
theorem hs_ext {x y : Int32} (h : ∀ k, k < 32 → hs x (nI k) = hs y (nI k)) : x = y := b_ext fun i hi => by rw [← hs_bt hi, ← hs_bt hi]; exact h i hi
theorem hs_not {x : Int32} {k : Nat} (h : k < 32) : hs (x ^^^ (-1)) (nI k) = !hs x (nI k) := by rw [hs_bt h, hs_bt h, bt_not h]
theorem dec_s {k n : Nat} : decide (k < n + 1) = (decide (k < n) || decide (k = n)) := by rw [← Bool.decide_or]; exact decide_eq_decide.mpr (by omega)
theorem ltA_s {d n : Nat} {A : Prop} (e : ¬ d = n) : (d < n ∧ A) ↔ (d < n + 1 ∧ A) := ⟨fun y => ⟨by have := y.1; omega, y.2⟩, fun y => ⟨by have := y.1; omega, y.2⟩⟩
theorem if_cg {α : Type} {b c : Prop} [Decidable b] [Decidable c] {x y : α} (h : b ↔ c) : ite b x y = ite c x y := by
  by_cases q : b
  · rw [if_pos q, if_pos (h.mp q)]
  · rw [if_neg q, if_neg (fun z => q (h.mpr z))]
theorem bl_f {b : Bool} (h : b = false) : ¬ b = true := by rw [h]; decide
theorem bl_t {b : Bool} (h : b = true) : ¬ b = false := by rw [h]; decide
theorem m99_eq (x : Int32) : m99 x = if x ≤ nI 99 then x else nI 99 := by
  unfold m99
  by_cases h : x < nI 99
  · rw [if_pos h, if_pos (Int32.le_of_lt h)]
  · rw [if_neg h]
    by_cases h2 : x ≤ nI 99
    · rw [if_pos h2]; exact (Int32.le_antisymm h2 (Int32.not_lt.mp h)).symm
    · rw [if_neg h2]
theorem m99_N {d b : Nat} (hd : d ≤ 99) (hb : b < 2 ^ 30) : ∃ e, e ≤ 99 ∧ m99 (nI d + nI b) = nI e := by
  rw [m99_eq, nI_add]
  by_cases h : d + b ≤ 99
  · exact ⟨d + b, h, if_pos ((nI_leI (by omega) (by omega)).mpr h)⟩
  · exact ⟨99, Nat.le_refl _, if_neg (fun z => h ((nI_leI (by omega) (by omega)).mp z))⟩
theorem hs_bit (c i : Int32) : hs c i = bt (c >>> (i &&& 31)) 0 := by
  unfold hs
  cases h : bt (c >>> (i &&& 31)) 0
  · exact decide_eq_false (fun z => z ((and1_0 _).mpr h))
  · exact decide_eq_true (fun z => by rw [(and1_0 _).mp z] at h; cases h)
/-- a mine and a page tell the same -/
def PR (mo : Nat) (S : xS) (P : Nat → Int32) : Prop :=
  (∀ c, c < 12 → P c = S.2.1 c) ∧ (∀ c, c < 12 → P (12 + c) = S.2.2.1 c) ∧ (∀ c, c < 12 → P (24 + c) = S.2.2.2.1 c) ∧ (∀ c, c < 12 → P (36 + c) = S.2.2.2.2.1 c) ∧
  (∀ j, j < mo → P (49 + j) = S.2.2.2.2.2 j) ∧ P 48 = S.1 9 ∧ P 53 = S.1 8 ∧ P 54 = S.1 10 ∧ P 55 = S.1 11
def oS (w : Nat → Int32) : Nat → Nat
  | 0 => 0
  | n + 1 => oS w n + (w n).toNatClampNeg
/-- what stays in a mine while it is worked -/
def GB (mo : Nat) (se : Nat → Int32) (S : xS) : Prop := MOK mo S ∧ (∃ h, h ≤ 9 ∧ S.1 5 = nI h) ∧ ∀ j, j < mo → (se j = nI 0 ∨ se j = nI 1) ∧ hs (S.1 7) (nI j) = decide (se j = nI 1)
theorem GB.keep {mo : Nat} {se : Nat → Int32} {S S' : xS} (h : GB mo se S) (k : keepS S S') : GB mo se S' := ⟨h.1.keep k, by rw [k.1]; exact h.2.1, by rw [k.2.2.1]; exact h.2.2⟩
/-- what holds of the numbers of a mine; E: no cell has more echoes -/
def GV (mo E : Nat) (S : xS) : Prop :=
  (∀ k, 12 ≤ k → k < 32 → hs (S.1 9) (nI k) = false) ∧ (∀ k, mo ≤ k → k < 32 → hs (S.1 8) (nI k) = false) ∧
  (∀ c, c < 12 → ∃ d, d ≤ 9 ∧ S.2.2.2.1 c = nI d) ∧ (∀ c, c < 12 → ∃ d, d ≤ 99 ∧ S.2.2.1 c = nI d) ∧ (∀ c, c < 12 → ∃ d, d ≤ E ∧ S.2.2.2.2.1 c = nI d) ∧
  (∀ c, c < 12 → hs (S.1 9) (nI c) = true → S.2.2.1 c = nI 0 ∧ S.2.2.2.1 c = nI 0) ∧
  (∀ c, c < 12 → ∃ d, d ≤ 9 ∧ S.2.1 c = nI d) ∧ ∃ t, S.1 10 = nI t ∧ t + oS S.2.1 12 ≤ 108
theorem GV.up {mo E E' : Nat} {S : xS} (h : GV mo E S) (hE : E ≤ E') : GV mo E' S := by
  obtain ⟨a, b, c, d, e, f, g, i⟩ := h
  exact ⟨a, b, c, d, fun k hk => by obtain ⟨q, hq, hq2⟩ := e k hk; exact ⟨q, by omega, hq2⟩, f, g, i⟩
def tkS (S : xS) : Nat := (S.1 10).toNatClampNeg
theorem GV.tkN {mo E : Nat} {S : xS} (h : GV mo E S) : S.1 10 = nI (tkS S) ∧ tkS S ≤ 108 := by
  obtain ⟨-, -, -, -, -, -, -, t, ht, hl⟩ := h
  have e : tkS S = t := by unfold tkS; rw [ht, nI_clamp (by omega)]
  exact ⟨by rw [e, ht], by omega⟩
-- ===== bits =====
theorem hs_vDue {f w2 w3 : Nat → Int32} : ∀ n, n ≤ 12 → ∀ k, k < 32 → hs (vDue f w2 w3 n) (nI k) = (decide (k < n) && !decide (w2 k ≤ f 5 + w3 k)) := by
  intro n
  induction n with
  | zero => intro _ k hk; rw [vDue, hs_z hk]; simp
  | succ n ih =>
    intro hn k hk
    rw [dec_s]
    by_cases h : w2 n ≤ f 5 + w3 n
    · rw [vDue_t h, ih (by omega) k hk]
      by_cases e : k = n
      · subst e; rw [decide_eq_true h]; simp
      · rw [decide_eq_false e]; simp
    · rw [vDue_f h, hs_or hk, ih (by omega) k hk, hs_one (by omega) hk]
      by_cases e : k = n
      · subst e; rw [decide_eq_false h]; simp
      · rw [decide_eq_false e]; simp
theorem hs_gDue {S : xS} {k : Nat} (hk : k < 32) : hs (gDue S) (nI k) = (decide (k < 12) && !decide (S.2.2.1 k ≤ S.1 5 + S.2.2.2.1 k)) := hs_vDue 12 (Nat.le_refl _) k hk
theorem hs_vOn {w : Nat → Int32} {cells : Int32} : ∀ n, n ≤ 4 → ∀ k, k < 32 → hs (vOn w cells n) (nI k) = (decide (k < n) && hs cells (w k)) := by
  intro n
  induction n with
  | zero => intro _ k hk; rw [vOn, hs_z hk]; simp
  | succ n ih =>
    intro hn k hk
    have e : hs (((cells >>> (w n &&& 31)) &&& nI 1) <<< (nI n &&& 31)) (nI k) = (decide (k = n) && hs cells (w n)) := by
      rw [hs_bt hk, b_shl n (by omega) _ hk, b_and, bt_one _ (by omega), hs_bit]
      by_cases e : k = n
      · subst e; simp
      · rw [decide_eq_false e]
        by_cases z : n ≤ k
        · rw [decide_eq_false (by omega : ¬ k - n = 0)]; simp
        · rw [decide_eq_false z]; simp
    rw [vOn, hs_or hk, ih (by omega) k hk, e, dec_s]
    by_cases e2 : k = n
    · subst e2; simp
    · rw [decide_eq_false e2]; simp
theorem due_ok {mo E : Nat} {se : Nat → Int32} {S : xS} (hB : GB mo se S) (hV : GV mo E S) : ∀ k, k < 32 → hs (gDue S) (nI k) = true → k < 12 ∧ hs (S.1 9) (nI k) = false := by
  intro k hk h
  rw [hs_gDue hk] at h
  simp only [Bool.and_eq_true, decide_eq_true_eq, Bool.not_eq_true', decide_eq_false_iff_not] at h
  refine ⟨h.1, ?_⟩
  cases z : hs (S.1 9) (nI k)
  · rfl
  · obtain ⟨a, b⟩ := hV.2.2.2.2.2.1 k h.1 z
    obtain ⟨q, hq, hq2⟩ := hB.2.1
    exfalso
    apply h.2
    rw [a, b, hq2, nI_add]
    exact nI_le (by omega) (by omega)
theorem due_eq {mo E : Nat} {se : Nat → Int32} {S : xS} {P : Nat → Int32} (hB : GB mo se S) (hV : GV mo E S) (hp : PR mo S P) : pDu (S.1 5) P 12 = gDue S := by
  refine hs_ext fun k hk => ?_
  obtain ⟨p1, p2, p3, p4, p5, p6, p7, p8, p9⟩ := hp
  have q := due_ok hB hV k hk
  rw [hs_gDue hk] at q ⊢
  rw [hs_pDu 12 (Nat.le_refl _) k hk, p6]
  by_cases h : k < 12
  · rw [p2 k h, p3 k h]
    cases z : hs (S.1 9) (nI k)
    · simp
    · rw [z] at q
      by_cases y : S.2.2.1 k ≤ S.1 5 + S.2.2.2.1 k
      · rw [decide_eq_true y]; simp
      · rw [decide_eq_true h, decide_eq_false y] at q
        exact absurd (q rfl).2 (by decide)
  · rw [decide_eq_false h]; simp
-- ===== one wave, on a page =====
theorem pB1_row {P : Nat → Int32} {b c k : Nat} (hb : b = 0 ∨ b = 12 ∨ b = 24 ∨ b = 36) (hk : k < 12) (hc : c < 12) : pB1 P c (b + k) = if k = c then nI 0 else P (b + k) := by
  unfold pB1
  by_cases e : k = c
  · subst e
    rw [if_pos rfl]
    rcases hb with rfl | rfl | rfl | rfl
    · rw [Nat.zero_add, upd_n (by omega), upd_n (by omega), upd_n (by omega), upd_s]
    · rw [upd_n (by omega), upd_n (by omega), upd_s]
    · rw [upd_n (by omega), upd_s]
    · rw [upd_s]
  · rw [if_neg e, upd_n (by omega), upd_n (by omega), upd_n (by omega), upd_n (by omega), upd_n (by omega)]
theorem fA_row {mo b k : Nat} {now : Int32} {P : Nat → Int32} (hb : b = 0 ∨ b = 12 ∨ b = 24 ∨ b = 36) (hk : k < 12) : ∀ n, n ≤ 12 → fA mo now P n (b + k) = if k < n ∧ hs now (nI k) = true then nI 0 else P (b + k) := by
  intro n
  induction n with
  | zero => intro _; rw [fA, if_neg (fun y => absurd y.1 (by omega))]
  | succ n ih =>
    intro hn
    have q := ih (by omega)
    cases z : hs now (nI n)
    · rw [fA_f z, q]
      by_cases e : k = n
      · subst e
        rw [if_neg (fun y => absurd y.1 (by omega)), if_neg (fun y => bl_f z y.2)]
      · exact if_cg (ltA_s e)
    · rw [fA_t z, pMk_o (by omega), pB2, upd_n (by omega), pB1_row hb hk (by omega)]
      by_cases e : k = n
      · subst e
        rw [if_pos rfl, if_pos ⟨by omega, z⟩]
      · rw [if_neg e, q]
        exact if_cg (ltA_s e)
theorem pMk_53 {c : Nat} {P : Nat → Int32} : ∀ n, n ≤ 4 → ∀ k, k < 32 → hs (pMk c P n 53) (nI k) = (hs (P 53) (nI k) || (decide (k < n) && decide (P (49 + k) = nI c))) := by
  intro n
  induction n with
  | zero => intro _ k hk; rw [pMk]; simp
  | succ n ih =>
    intro hn k hk
    rw [pMk, upd_s, hs_or hk, ih (by omega) k hk, pMk_o (by omega), dec_s]
    by_cases e : k = n
    · subst e
      by_cases z : P (49 + k) = nI c
      · rw [if_pos z, hs_one (by omega) hk, decide_eq_true z]; simp
      · rw [if_neg z, hs_z hk, decide_eq_false z]; simp
    · have c3 : hs (if P (49 + n) = nI c then nI 1 <<< (nI n &&& 31) else nI 0) (nI k) = false := by
        split
        · rw [hs_one (by omega) hk, decide_eq_false e]
        · exact hs_z hk
      rw [c3, decide_eq_false e]; simp
theorem fA_53 {mo : Nat} {now : Int32} {P : Nat → Int32} {pl : Nat → Nat} (hm : mo ≤ 4) (hp : ∀ j, j < mo → P (49 + j) = nI (pl j) ∧ pl j < 12) : ∀ n, n ≤ 12 → ∀ k, k < 32 → hs (fA mo now P n 53) (nI k) = (hs (P 53) (nI k) || (decide (k < mo) && (decide (pl k < n) && hs now (nI (pl k))))) := by
  intro n
  induction n with
  | zero => intro _ k hk; rw [fA]; simp
  | succ n ih =>
    intro hn k hk
    have q := ih (by omega) k hk
    rw [dec_s]
    cases z : hs now (nI n)
    · rw [fA_f z, q]
      by_cases e : pl k = n
      · rw [e, z]; simp
      · rw [decide_eq_false e]; simp
    · have a1 : pB2 (fA mo now P n) n 53 = fA mo now P n 53 := by
        unfold pB2 pB1
        rw [upd_n (by omega), upd_n (by omega), upd_n (by omega), upd_n (by omega), upd_n (by omega), upd_n (by omega)]
      rw [fA_t z, pMk_53 mo hm k hk, a1, q]
      by_cases hkm : k < mo
      · have a2 : pB2 (fA mo now P n) n (49 + k) = P (49 + k) := by
          unfold pB2 pB1
          rw [upd_n (by omega), upd_n (by omega), upd_n (by omega), upd_n (by omega), upd_n (by omega), upd_n (by omega), fA_o (by omega) (by omega) (by omega) n (by omega)]
        obtain ⟨y1, y2⟩ := hp k hkm
        have a3 : decide (nI (pl k) = nI n) = decide (pl k = n) := decide_eq_decide.mpr (nI_eq (by omega) (by omega))
        rw [a2, y1, a3, decide_eq_true hkm]
        by_cases e : pl k = n
        · rw [e, z]; simp
        · rw [decide_eq_false e]; simp
      · rw [decide_eq_false hkm]; simp
theorem fA_54 {mo : Nat} {now : Int32} {P w1 : Nat → Int32} (h : ∀ c, c < 12 → P c = w1 c) : ∀ n, n ≤ 12 → fA mo now P n 54 = vTk now w1 (P 54) n := by
  intro n
  induction n with
  | zero => intro _; rfl
  | succ n ih =>
    intro hn
    have q := ih (by omega)
    cases z : hs now (nI n)
    · rw [fA_f z, vTk_f z, q]
    · have r := fA_row (mo := mo) (now := now) (P := P) (b := 0) (k := n) (Or.inl rfl) (by omega) n (by omega)
      rw [if_neg (fun y => absurd y.1 (by omega)), Nat.zero_add] at r
      rw [fA_t z, vTk_t z, pMk_o (by omega), pB2, upd_n (by omega)]
      unfold pB1
      rw [upd_n (by omega), upd_n (by omega), upd_n (by omega), upd_n (by omega), upd_s, q, r, h n (by omega)]
theorem pLo_at {P : Nat → Int32} {c d : Nat} {b : Int32} : pLo P c b (12 + d) = if d = c ∧ hs (P 48) (nI c) = false then m99 (P (12 + d) + b) else P (12 + d) := by
  unfold pLo
  cases z : hs (P 48) (nI c)
  · rw [if_neg (by decide)]
    by_cases e : d = c
    · subst e; rw [upd_s, ← m99_eq]; exact (if_pos ⟨rfl, rfl⟩).symm
    · rw [upd_n (by omega), if_neg (fun y => e y.1)]
  · rw [if_pos rfl, if_neg (fun y => absurd y.2 (by decide))]
theorem fO_at {now : Int32} {c d : Nat} {P : Nat → Int32} : ∀ n, n ≤ 12 → fO now c P n (12 + d) = if d < n ∧ (hs now (nI c) = true ∧ aN (nI c) (nI d) = true ∧ hs (P 48) (nI d) = false) then m99 (P (12 + d) + nI 1) else P (12 + d) := by
  intro n
  induction n with
  | zero => intro _; rw [fO, if_neg (fun y => absurd y.1 (by omega))]
  | succ n ih =>
    intro hn
    have q := ih (by omega)
    by_cases z : hs now (nI c) = true ∧ aN (nI c) (nI n) = true
    · by_cases e : d = n
      · subst e
        rw [if_neg (fun y => absurd y.1 (by omega))] at q
        rw [fO, if_pos z, pLo_at, fO_o (k := 48) (by omega) d (by omega), q]
        exact if_cg ⟨fun y => ⟨by omega, z.1, z.2, y.2⟩, fun y => ⟨rfl, y.2.2.2⟩⟩
      · rw [fO, if_pos z, pLo_at, fO_o (k := 48) (by omega) n (by omega), q, if_neg (fun y => e y.1)]
        exact if_cg (ltA_s e)
    · rw [fO, if_neg z, q]
      by_cases e : d = n
      · subst e
        rw [if_neg (fun y => absurd y.1 (by omega)), if_neg (fun y => z ⟨y.2.1, y.2.2.1⟩)]
      · exact if_cg (ltA_s e)
theorem fB_vBl {now fal : Int32} {P w2 : Nat → Int32} (h48 : ∀ k, k < 12 → hs (P 48) (nI k) = hs fal (nI k)) (hdue : ∀ k, k < 12 → hs now (nI k) = true → hs fal (nI k) = true ∧ P (12 + k) = nI 0) (hnd : ∀ k, k < 12 → hs now (nI k) = false → P (12 + k) = w2 k) :
    ∀ n, n ≤ 12 → ∀ d, d < 12 → (hs now (nI d) = true → fB now P n (12 + d) = nI 0 ∧ (d < n → vBl now fal w2 n d = nI 0)) ∧ (hs now (nI d) = false → fB now P n (12 + d) = vBl now fal w2 n d) := by
  intro n
  induction n with
  | zero => intro _ d hd; exact ⟨fun h => ⟨(hdue d hd h).2, fun y => absurd y (by omega)⟩, fun h => hnd d hd h⟩
  | succ n ih =>
    intro hn d hd
    have q := ih (by omega) d hd
    have r : fB now P (n + 1) (12 + d) = _ := fO_at (now := now) (c := n) (d := d) (P := fB now P n) 12 (Nat.le_refl _)
    rw [fB_o (k := 48) (by omega) n, h48 d hd, aN_near n (by omega) d hd] at r
    cases z : hs now (nI n)
    · rw [vBl_f z]
      rw [if_neg (fun y => bl_f z y.2.1)] at r
      rw [r]
      refine ⟨fun h => ⟨(q.1 h).1, fun y => (q.1 h).2 ?_⟩, q.2⟩
      have : d ≠ n := fun e => by subst e; rw [h] at z; cases z
      omega
    · rw [vBl_t z, r]
      have s : hs (xnear n &&& (fal ^^^ (-1))) (nI d) = (hs (xnear n) (nI d) && !hs fal (nI d)) := by rw [hs_and (by omega), hs_not (by omega)]
      unfold lsn
      rw [s]
      refine ⟨fun h => ?_, fun h => ?_⟩
      · have f1 := (hdue d hd h).1
        rw [f1, if_neg (fun y => absurd y.2.2.2 (by decide)), Bool.not_true, Bool.and_false, if_neg (fun y => absurd y.2 (by decide))]
        refine ⟨(q.1 h).1, fun y => ?_⟩
        by_cases e : d = n
        · subst e; rw [upd_s]
        · rw [upd_n e]; exact (q.1 h).2 (by omega)
      · have e : d ≠ n := fun e => by subst e; rw [h] at z; cases z
        rw [upd_n e, q.2 h]
        refine if_cg ⟨fun y => ⟨hd, by rw [y.2.2.1, y.2.2.2]; rfl⟩, fun y => ?_⟩
        have y2 := y.2
        simp only [Bool.and_eq_true, Bool.not_eq_true'] at y2
        exact ⟨hd, z, y2.1, y2.2⟩
theorem PR.fell {mo : Nat} {S : xS} {P : Nat → Int32} {due : Int32} (hp : PR mo S P) (hm : MOK mo S) (hdue : ∀ k, k < 32 → hs due (nI k) = true → k < 12 ∧ hs (S.1 9) (nI k) = false) : PR mo (gFell mo S due) (pW mo due P) := by
  obtain ⟨p1, p2, p3, p4, p5, p6, p7, p8, p9⟩ := hp
  have row : ∀ b, (b = 0 ∨ b = 24 ∨ b = 36) → ∀ c, c < 12 → pW mo due P (b + c) = if c < 12 ∧ hs due (nI c) = true then nI 0 else P (b + c) := fun b hb c hc => by
    unfold pW
    rw [fB_o (by omega), fA_row (by omega) hc 12 (Nat.le_refl _)]
  have h48 : ∀ k, k < 12 → hs (fA mo due P 12 48) (nI k) = hs (S.1 9 ||| due) (nI k) := fun k hk => by
    rw [fA_48 12 (Nat.le_refl _) k (by omega), hs_or (by omega), p6, decide_eq_true hk, Bool.true_and]
  have pl : ∀ j, j < mo → P (49 + j) = nI (plN S.2.2.2.2.2 j) ∧ plN S.2.2.2.2.2 j < 12 := fun j hj => by
    rw [p5 j hj]; exact hm.2.2 j hj
  refine ⟨fun c hc => ?_, fun c hc => ?_, fun c hc => ?_, fun c hc => ?_, fun j hj => ?_, ?_, ?_, ?_, ?_⟩
  · have q := row 0 (Or.inl rfl) c hc
    rw [Nat.zero_add, p1 c hc] at q
    exact q
  · have lo : ∀ k, k < 12 → fA mo due P 12 (12 + k) = if k < 12 ∧ hs due (nI k) = true then nI 0 else P (12 + k) := fun k hk => fA_row (by omega) hk 12 (Nat.le_refl _)
    have q := fB_vBl (now := due) (fal := S.1 9 ||| due) (P := fA mo due P 12) (w2 := S.2.2.1) h48
      (fun k hk h => ⟨by rw [hs_or (by omega), h, Bool.or_true], by rw [lo k hk, if_pos ⟨hk, h⟩]⟩)
      (fun k hk h => by rw [lo k hk, if_neg (fun y => bl_f h y.2), p2 k hk]) 12 (Nat.le_refl _) c hc
    show fB due (fA mo due P 12) 12 (12 + c) = vBl due (S.1 9 ||| due) S.2.2.1 12 c
    cases z : hs due (nI c)
    · exact q.2 z
    · rw [(q.1 z).1, (q.1 z).2 hc]
  · have q := row 24 (by omega) c hc
    rw [p3 c hc] at q
    exact q
  · have q := row 36 (by omega) c hc
    rw [p4 c hc] at q
    exact q
  · have := hm.2.1
    rw [pW_o (by omega) (by omega) (by omega), p5 j hj]
    rfl
  · show pW mo due P 48 = S.1 9 ||| due
    refine hs_ext fun k hk => ?_
    rw [pW_48 hk, hs_or hk, p6]
    cases z : hs due (nI k)
    · simp
    · rw [decide_eq_true (hdue k hk z).1, Bool.true_and]
  · show pW mo due P 53 = S.1 8 ||| vOn S.2.2.2.2.2 due mo
    refine hs_ext fun k hk => ?_
    unfold pW
    rw [fB_o (by omega), fA_53 hm.2.1 pl 12 (Nat.le_refl _) k hk, hs_or hk, hs_vOn mo hm.2.1 k hk, p7]
    by_cases h : k < mo
    · rw [(hm.2.2 k h).1, decide_eq_true (pl k h).2, Bool.true_and]
    · rw [decide_eq_false h]; simp
  · show pW mo due P 54 = vTk due S.2.1 (S.1 10) 12
    unfold pW
    rw [fB_o (by omega), fA_54 p1 12 (Nat.le_refl _), p8]
  · rw [pW_o (by omega) (by omega) (by omega), p9]
    rfl
end XRA
