/-! THE MODEL: chance -/
section XMK
variable {G : xG} {T : xT} {R : xR} {L : xL} {I : xI}
def sm (f : Nat → Nat) : Nat → Nat
  | 0 => 0
  | n + 1 => sm f n + f n
theorem sm_ext {f g : Nat → Nat} : ∀ n, (∀ k, k < n → f k = g k) → sm f n = sm g n := by
  intro n
  induction n with
  | zero => intro _; rfl
  | succ n ih => intro h; rw [sm, sm, ih (fun k hk => h k (by omega)), h n (by omega)]
theorem sm_mul {f : Nat → Nat} {c : Nat} : ∀ n, sm (fun k => c * f k) n = c * sm f n := by
  intro n
  induction n with
  | zero => rfl
  | succ n ih => rw [sm, sm, ih, Nat.mul_add]
theorem sm_add {f g : Nat → Nat} : ∀ n, sm (fun k => f k + g k) n = sm f n + sm g n := by
  intro n
  induction n with
  | zero => rfl
  | succ n ih => rw [sm, sm, sm, ih]; omega
theorem sm_z : ∀ n, sm (fun _ => 0) n = 0 := by
  intro n
  induction n with
  | zero => rfl
  | succ n ih => rw [sm, ih]
theorem sm_dl {f : Nat → Nat} {a w : Nat} : ∀ n, sm (fun t => f t * (if a = t then w else 0)) n = if a < n then f a * w else 0 := by
  intro n
  induction n with
  | zero => rw [sm, if_neg (by omega)]
  | succ n ih =>
    rw [sm, ih]
    by_cases e : a = n
    · subst e
      rw [if_neg (by omega), if_pos rfl, if_pos (by omega)]
      omega
    · rw [if_neg e, Nat.mul_zero, Nat.add_zero]
      exact if_cg (by omega)
theorem sm_swap {f g w : Nat → Nat} {N : Nat} : ∀ n, (∀ s, s < n → g s < N) → sm (fun s => f (g s) * w s) n = sm (fun t => f t * sm (fun s => if g s = t then w s else 0) n) N := by
  intro n
  induction n with
  | zero => intro _; exact ((sm_ext N (fun k _ => Nat.mul_zero _)).trans (sm_z N)).symm
  | succ n ih =>
    intro h
    have e : sm (fun t => f t * sm (fun s => if g s = t then w s else 0) (n + 1)) N = sm (fun t => f t * sm (fun s => if g s = t then w s else 0) n + f t * (if g n = t then w n else 0)) N := sm_ext N (fun k _ => by rw [sm, Nat.mul_add])
    rw [e, sm_add, sm_dl, if_pos (h n (by omega)), sm, ih (fun s hs => h s (by omega))]
def wl (x s lv : Nat) : Nat → Nat
  | 0 => 1
  | m + 1 => if lv.testBit m then wl x s lv m * (if s.testBit m then x else 10 - x) else wl x s lv m
def wn (x s : Nat) : Nat → Nat
  | 0 => 1
  | m + 1 => wn x s m * (if s.testBit m then x else 10 - x)
def rs (lv : Nat) : Nat → Nat
  | 0 => 1
  | m + 1 => if lv.testBit m then rs lv m else rs lv m * 10
theorem ch_core : ∀ mo, mo < 5 → ∀ lv, lv < 2 ^ mo → ∀ x, x < 11 → ∀ t, t < 16 → sm (fun s => if s &&& lv = t then wn x s mo else 0) (2 ^ mo) = if t &&& lv = t then rs lv mo * wl x t lv 4 else 0 := by decide +kernel
theorem ch_all : ∀ mo, mo < 5 → ∀ lv, lv < 2 ^ mo → ∀ x, x < 11 → rs lv mo * sm (fun t => if t &&& lv = t then wl x t lv 4 else 0) 16 = 10 ^ mo := by decide +kernel
theorem ch_wt : ∀ k, k < 16 → ∀ lv, lv < 16 → ∀ x, x < 11 → wt (nI k) (nI lv) (nI x) 4 = nI (wl x k lv 4) := by decide +kernel
theorem ch_and : ∀ k, k < 16 → ∀ lv, lv < 16 → (nI k &&& (nI lv ^^^ (-1)) = 0 ↔ k &&& lv = k) := by decide +kernel
theorem ch_hs : ∀ k, k < 16 → ∀ j, j < 4 → hs (nI k) (nI j) = k.testBit j := by decide +kernel
theorem ch_lt : ∀ k, k < 16 → ∀ lv, lv < 16 → k &&& lv < 16 := by decide +kernel
theorem wl_le {x s lv : Nat} (hx : x ≤ 10) : ∀ n, wl x s lv n ≤ 10 ^ n := by
  intro n
  induction n with
  | zero => exact Nat.le_refl _
  | succ n ih =>
    rw [wl, Nat.pow_succ]
    split
    · exact Nat.mul_le_mul ih (by split <;> omega)
    · exact Nat.le_trans ih (Nat.le_mul_of_pos_right _ (by decide))
theorem wn_le {x s : Nat} (hx : x ≤ 10) : ∀ n, wn x s n ≤ 10 ^ n := by
  intro n
  induction n with
  | zero => exact Nat.le_refl _
  | succ n ih =>
    rw [wn, Nat.pow_succ]
    exact Nat.mul_le_mul ih (by split <;> omega)
theorem liv_N {mo : Nat} {se : Nat → Int32} {S : xS} (hB : GB mo se S) : ∃ lv, lv < 2 ^ mo ∧ vLiv S.1 = nI lv := by
  have hm4 := hB.1.2.1
  have m2 : ∀ q, q < 5 → ((nI 1 <<< (nI q &&& 31)) - nI 1).toBitVec.toNat = 2 ^ q - 1 := by decide +kernel
  obtain ⟨j, hj, e⟩ := pk_andE (S.1 8 ^^^ (-1)) mo (m2 mo (by omega))
  refine ⟨j, hj, ?_⟩
  rw [← e]
  unfold vLiv
  rw [hB.1.1]
  refine hs_ext fun k hk => ?_
  rw [hs_and hk, hs_and hk, Bool.and_comm]
-- who is buried stays so
theorem bur_wv {mo k : Nat} (hk : k < 32) : ∀ n S, hs (S.1 8) (nI k) = true → hs ((wv mo n S).1 8) (nI k) = true := by
  intro n
  induction n with
  | zero => intro S h; exact h
  | succ n ih =>
    intro S h
    rw [wv]
    by_cases c : gDue S = 0
    · rw [if_pos c]; exact h
    · rw [if_neg c]
      refine ih _ ?_
      show hs (S.1 8 ||| vOn S.2.2.2.2.2 (gDue S) mo) (nI k) = true
      rw [hs_or hk, h, Bool.true_or]
theorem bur_pa {mo k : Nat} {set : Int32} {S : xS} (hk : k < 32) (h : hs (S.1 8) (nI k) = true) : ∀ n, hs ((gPa mo set S n).1 8) (nI k) = true := by
  intro n
  induction n with
  | zero => exact h
  | succ n ih =>
    rw [gPa]
    split
    · exact bur_wv hk 12 (gLb mo (gPa mo set S n) n) ih
    · exact ih
theorem gPa_liv {mo s lv : Nat} {se : Nat → Int32} {S : xS} (hB : GB mo se S) (hs16 : s < 16) (hl16 : lv < 16) (hl : vLiv S.1 = nI lv) : ∀ n, n ≤ 4 → gPa mo (nI s) S n = gPa mo (nI (s &&& lv)) S n := by
  intro n
  induction n with
  | zero => intro _; rfl
  | succ n ih =>
    intro h4
    have q := ih (by omega)
    rw [gPa, gPa, ← q]
    cases c : bLiv (gPa mo (nI s) S n).1 (nI n)
    · rw [Bool.and_false, Bool.and_false]
    · have v : hs (vLiv S.1) (nI n) = true := by
        rw [hs_liv hB.1.1 hB.1.2.1 (by omega)]
        rw [bLiv_N2 (hB.keep (keep_pa mo (nI s) S n)) (by omega), Bool.and_eq_true] at c
        cases z : hs (S.1 8) (nI n)
        · rw [c.1]; rfl
        · rw [bur_pa (by omega) z n] at c
          exact absurd c.2 (by decide)
      rw [hl, ch_hs lv hl16 n (by omega)] at v
      rw [ch_hs s hs16 n (by omega), ch_hs (s &&& lv) (ch_lt s hs16 lv hl16) n (by omega), Nat.testBit_and, v]
      simp only [Bool.and_true]
-- the greatest common divisor
theorem md_lt {a d : Nat} (h0 : 0 < d) (h : d < a) : 2 * (a % d) < a := by
  have e := Nat.div_add_mod a d
  have l := Nat.mod_lt a h0
  have q : d ≤ d * (a / d) := Nat.le_mul_of_pos_right _ (Nat.div_pos (by omega) h0)
  omega
theorem gd_N : ∀ n a d, d < 2 ^ n → a < 2 ^ 31 → d < 2 ^ 31 → gdL (2 * n) (nI a) (nI d) = nI (Nat.gcd a d) := by
  intro n
  induction n with
  | zero =>
    intro a d h _ _
    obtain rfl : d = 0 := by omega
    rw [Nat.gcd_zero_right]; rfl
  | succ n ih =>
    intro a d h ha hd
    by_cases c : d = 0
    · subst c; rw [gdL_z nI_0, Nat.gcd_zero_right]
    · have hr := Nat.mod_lt a (show 0 < d by omega)
      rw [show 2 * (n + 1) = 2 * n + 1 + 1 by omega, gdL, if_neg (nI_ne0 (by omega) hd), pk_rem ha (by omega) hd, Nat.gcd_comm, Nat.gcd_rec]
      by_cases c2 : a % d = 0
      · rw [c2, gdL_z nI_0, Nat.gcd_zero_left]
      · have hm := md_lt (a := d) (show 0 < a % d by omega) hr
        rw [gdL, if_neg (nI_ne0 (by omega) (by omega)), pk_rem hd (by omega) (by omega), ih _ _ (by rw [Nat.pow_succ] at h; omega) (by omega) (by omega), Nat.gcd_comm (a % d) d, Nat.gcd_comm (a % d) (d % (a % d))]
        rw [← Nat.gcd_rec, Nat.gcd_comm]
/-- a cell falls by a set -/
def fBy (mo : Nat) (S : xS) (c : Int32) (s : Nat) : Nat := if hs ((gPa mo (nI s) S 4).1 9) c = true then 1 else 0
def cP (mo : Nat) (S : xS) (c : Int32) (x lv : Nat) : Nat → Nat := fun t => if t &&& lv = t then fBy mo S c t * wl x t lv 4 else 0
def cQ (x lv : Nat) : Nat → Nat := fun t => if t &&& lv = t then wl x t lv 4 else 0
def cM (mo : Nat) (S : xS) (c : Int32) (x : Nat) : Nat → Nat := fun s => fBy mo S c s * wn x s mo
theorem cF_N {mo lv x : Nat} {S : xS} {c : Int32} (hl16 : lv < 16) (hl : vLiv S.1 = nI lv) (hx : x < 11) : ∀ k, k ≤ 16 → cF mo S c (nI x) k = (nI (sm (cP mo S c x lv) k), nI (sm (cQ x lv) k)) := by
  intro k
  induction k with
  | zero => intro _; rfl
  | succ k ih =>
    intro h16
    rw [cF, ih (by omega), hl, sm, sm]
    dsimp only
    by_cases z : k &&& lv = k
    · rw [if_pos ((ch_and k (by omega) lv hl16).mpr z), ch_wt k (by omega) lv hl16 x hx, nI_add]
      unfold cP cQ fBy
      rw [if_pos z, if_pos z]
      split
      · rw [nI_add, Nat.one_mul]
      · rw [nI_add, Nat.zero_mul]
    · rw [if_neg (fun y => z ((ch_and k (by omega) lv hl16).mp y))]
      unfold cP cQ
      rw [if_neg z, if_neg z, Nat.add_zero, Nat.add_zero]
theorem fBy_le {mo s : Nat} {S : xS} {c : Int32} : fBy mo S c s ≤ 1 := by unfold fBy; split <;> omega
theorem cM_P {mo lv x : Nat} {se : Nat → Int32} {S : xS} {c : Int32} (hB : GB mo se S) (hl2 : lv < 2 ^ mo) (hl : vLiv S.1 = nI lv) (hx : x < 11) : sm (cM mo S c x) (2 ^ mo) = rs lv mo * sm (cP mo S c x lv) 16 := by
  have hm4 := hB.1.2.1
  have h16 := p2_le mo (by omega)
  have e1 : sm (cM mo S c x) (2 ^ mo) = sm (fun s => fBy mo S c (s &&& lv) * wn x s mo) (2 ^ mo) := sm_ext _ (fun s hs => by
    unfold cM fBy
    rw [gPa_liv hB (by omega) (by omega) hl 4 (Nat.le_refl _)])
  rw [e1, sm_swap (f := fBy mo S c) (g := fun s => s &&& lv) (w := fun s => wn x s mo) (N := 16) (2 ^ mo) (fun s hs => ch_lt s (by omega) lv (by omega)), ← sm_mul]
  refine sm_ext 16 (fun t ht => ?_)
  rw [ch_core mo (by omega) lv hl2 x hx t ht]
  unfold cP
  split
  · rw [Nat.mul_left_comm]
  · rfl
theorem sm_le {f : Nat → Nat} {B : Nat} : ∀ n, (∀ k, k < n → f k ≤ B) → sm f n ≤ n * B := by
  intro n
  induction n with
  | zero => intro _; exact Nat.zero_le _
  | succ n ih =>
    intro h
    have a := ih (fun k hk => h k (by omega))
    have d := h n (by omega)
    rw [sm, Nat.succ_mul]
    omega
theorem sm_mono {f g : Nat → Nat} : ∀ n, (∀ k, k < n → f k ≤ g k) → sm f n ≤ sm g n := by
  intro n
  induction n with
  | zero => intro _; exact Nat.le_refl _
  | succ n ih =>
    intro h
    have a := ih (fun k hk => h k (by omega))
    have d := h n (by omega)
    rw [sm, sm]
    omega
theorem cM_le {mo x k : Nat} {S : xS} {c : Int32} (hm4 : mo ≤ 4) (hx : x ≤ 10) (hk : k ≤ 16) : sm (cM mo S c x) k ≤ 160000 := by
  have e : 10 ^ mo ≤ 10000 := Nat.pow_le_pow_right (n := 10) (by decide) hm4
  have q := sm_le (f := cM mo S c x) (B := 10000) k (fun s _ => by
    have a := fBy_le (mo := mo) (S := S) (c := c) (s := s)
    have d := wn_le (s := s) hx mo
    unfold cM
    exact Nat.le_trans (Nat.mul_le_mul a d) (by omega))
  omega
/-- the fraction, both ways -/
theorem ch_val {mo x : Nat} {se : Nat → Int32} {S : xS} {c up : Int32} (hB : GB mo se S) (hx : x ≤ 10) (hc : bCell c = true) :
    0 < Nat.gcd (sm (cM mo S c x) (2 ^ mo)) (10 ^ mo) ∧ qChance mo S c (nI x) up = if up = 0 then nI (10 ^ mo / Nat.gcd (sm (cM mo S c x) (2 ^ mo)) (10 ^ mo)) else nI (sm (cM mo S c x) (2 ^ mo) / Nat.gcd (sm (cM mo S c x) (2 ^ mo)) (10 ^ mo)) := by
  have hm4 := hB.1.2.1
  obtain ⟨lv, h2, hl⟩ := liv_N hB
  have h16 := p2_le mo (by omega)
  have pall : 0 < 10 ^ mo := Nat.pow_pos (by decide)
  have e : 10 ^ mo ≤ 10000 := Nat.pow_le_pow_right (n := 10) (by decide) hm4
  have hw := ch_all mo (by omega) lv h2 x (by omega)
  have hw : rs lv mo * sm (cQ x lv) 16 = 10 ^ mo := hw
  have hrs : 0 < rs lv mo := Nat.pos_of_ne_zero (fun z => by rw [z, Nat.zero_mul] at hw; omega)
  have hq0 : 0 < sm (cQ x lv) 16 := Nat.pos_of_ne_zero (fun z => by rw [z, Nat.mul_zero] at hw; omega)
  have hqle : sm (cQ x lv) 16 ≤ 10000 := Nat.le_trans (Nat.le_mul_of_pos_left _ hrs) (by omega)
  have hple : sm (cP mo S c x lv) 16 ≤ sm (cQ x lv) 16 := sm_mono 16 (fun t _ => by
    unfold cP cQ
    split
    · exact Nat.le_trans (Nat.mul_le_mul_right _ fBy_le) (by omega)
    · exact Nat.le_refl _)
  have hg0 : 0 < Nat.gcd (sm (cP mo S c x lv) 16) (sm (cQ x lv) 16) := Nat.gcd_pos_of_pos_right _ hq0
  have hgle : Nat.gcd (sm (cP mo S c x lv) 16) (sm (cQ x lv) 16) ≤ 10000 := Nat.le_trans (Nat.gcd_le_right _ hq0) hqle
  have hcG : cG mo S c (nI x) = nI (Nat.gcd (sm (cP mo S c x lv) 16) (sm (cQ x lv) 16)) := by
    unfold cG
    rw [cF_N (by omega) hl (by omega) 16 (Nat.le_refl _)]
    exact gd_N 32 _ _ (Nat.lt_of_le_of_lt hqle (by decide)) (by omega) (by omega)
  refine ⟨Nat.gcd_pos_of_pos_right _ pall, ?_⟩
  rw [cM_P hB h2 hl (by omega), ← hw, Nat.gcd_mul_left, Nat.mul_div_mul_left _ _ hrs, Nat.mul_div_mul_left _ _ hrs]
  unfold qChance
  rw [if_pos hc, if_neg (nI_pos (by omega)), if_pos (nI_le hx (by decide)), hcG, cF_N (by omega) hl (by omega) 16 (Nat.le_refl _), if_neg (nI_ne0 hg0 (by omega)), pk_div (by omega) hg0 (by omega), pk_div (by omega) hg0 (by omega)]
theorem qCh_c {mo : Nat} {S : xS} {c x up : Int32} (h : bCell c = false) : qChance mo S c x up = -1 := by unfold qChance; rw [if_neg (bl_f h)]
theorem qCh_x {mo : Nat} {S : xS} {c x up : Int32} (hc : bCell c = true) (h : (decide (nI 0 ≤ x) && decide (x ≤ nI 10)) = false) : qChance mo S c x up = -2 := by
  unfold qChance
  rw [if_pos hc]
  by_cases z : x < 0
  · rw [if_pos z]
  · rw [if_neg z, if_neg]
    intro y
    rw [decide_eq_true (show nI 0 ≤ x by rw [nI_0]; exact Int32.not_lt.mp z), decide_eq_true y] at h
    cases h
set_option maxHeartbeats 4000000 in
set_option maxRecDepth 100000 in
theorem P_X3_divisor_4 {a0 b0 : Int32} : ∀ q p (j4 : Option Value), p < 2 ^ 31 → q < 2 ^ 31 → xV G Y_X3_divisor T (xD (some (.int (nI (Nat.gcd p q)))) T R L I) 4 [some (.int a0), some (.int b0), some (.int (nI p)), some (.int (nI q)), j4] [] T R L I := by
  intro q
  induction q using Nat.strongRecOn with
  | ind q ih =>
  intro p j4 hp hq
  refine xV_iload_n e_X3_divisor_4 rfl ?_
  refine xV_if_eq e_X3_divisor_5 (fun h5 => ?_) (fun h5 => ?_)
  · obtain rfl : q = 0 := (nI_eq hq (by decide)).mp (h5.trans nI_0.symm)
    refine xV_iload_n e_X3_divisor_21 rfl ?_
    exact xV_ireturn e_X3_divisor_22 rfl rfl ⟨by rw [Nat.gcd_zero_right], rfl, rfl, rfl⟩
  · have hq0 : q ≠ 0 := fun z => h5 (by rw [z]; exact nI_0)
    refine xV_iload_n e_X3_divisor_8 rfl ?_
    refine xV_iload_n e_X3_divisor_9 rfl ?_
    refine xV_irem e_X3_divisor_10 (by first | assumption | decide) ?_
    rw [pk_rem hp (by omega) hq]
    refine xV_istore e_X3_divisor_11 (Nat.le_of_ble_eq_true rfl) rfl ?_
    refine xV_iload_n e_X3_divisor_13 rfl ?_
    refine xV_istore_n e_X3_divisor_14 (Nat.le_of_ble_eq_true rfl) rfl ?_
    refine xV_iload e_X3_divisor_15 rfl ?_
    refine xV_istore_n e_X3_divisor_17 (Nat.le_of_ble_eq_true rfl) rfl ?_
    refine xV_goto e_X3_divisor_18 ?_
    rw [Nat.gcd_comm, Nat.gcd_rec]
    rw [Nat.gcd_comm]
    exact ih (p % q) (Nat.mod_lt _ (by omega)) q _ hq (Nat.lt_trans (Nat.mod_lt _ (by omega)) hq)
set_option maxHeartbeats 4000000 in
set_option maxRecDepth 100000 in
theorem C_X3_divisor {p q : Nat} (hp : p < 2 ^ 31) (hq : q < 2 ^ 31) : xCon G Y_X3_divisor [.int (nI p), .int (nI q)] T R L I (xD (some (.int (nI (Nat.gcd p q)))) T R L I) := by
  refine xCon.mk (xl := [some (.int (nI p)), some (.int (nI q)), none, none, none]) (by decide +kernel) (xle_r _) rfl (Nat.le_of_ble_eq_true rfl) rfl ?_
  refine xV_iload_n e_X3_divisor_0 rfl ?_
  refine xV_istore_n e_X3_divisor_1 (Nat.le_of_ble_eq_true rfl) rfl ?_
  refine xV_iload_n e_X3_divisor_2 rfl ?_
  refine xV_istore_n e_X3_divisor_3 (Nat.le_of_ble_eq_true rfl) rfl ?_
  exact P_X3_divisor_4 q p none hp hq
set_option maxHeartbeats 4000000 in
set_option maxRecDepth 100000 in
theorem P_X3_chance_52 {m mo x ks sn : Nat} {c up : Int32} (hX : XM G T R m) (hmo : I m 5 = nI mo) (hm4 : mo ≤ 4) (hx10 : x ≤ 10) (hk16 : ks < 16) {P : Nat → Int32} {o : xO} (ho : o.1 = T)
    (hout : xV G Y_X3_chance T o 90 [some (.ref m), some (.int c), some (.int (nI x)), some (.int up), some (.int (nI sn)), some (.int (nI ks)), some (.int (nI (wn x ks mo))), some (.int (nI mo))] [] T R L (va_up I (m + 11) P)) :
    ∀ k, k ≤ mo → xV G Y_X3_chance T o 52 [some (.ref m), some (.int c), some (.int (nI x)), some (.int up), some (.int (nI sn)), some (.int (nI ks)), some (.int (nI (wn x ks k))), some (.int (nI k))] [] T R L (va_up I (m + 11) P) := by
  obtain ⟨m0, rt, st, rs, ss, rp, sp, rrp, srp, rrs, srs, rb, sb, rk, sk, ri, si, rc, sc, rv, sv, rr, sr⟩ := id hX
  obtain ⟨oT, oP⟩ := o
  subst ho
  refine xloop mo (fun k hk0 ih => ?_)
  refine xV_iload e_X3_chance_52 rfl ?_
  refine xV_aload_n e_X3_chance_54 rfl ?_
  refine xV_getMO e_X3_chance_55 f_X3_51 m0 (by omega) hmo ?_
  refine xV_icmp_geN e_X3_chance_58 (by omega) (by omega) (fun h58 => ?_) (fun h58 => ?_)
  · obtain rfl : k = mo := by omega
    exact hout
  · refine xV_iload e_X3_chance_61 rfl ?_
    refine xV_iload e_X3_chance_63 rfl ?_
    refine xV_iload e_X3_chance_65 rfl ?_
    refine xV_cS2i e_X3_chance_67 c_X3_70 (C_X3_hasH) (Nat.le_of_ble_eq_true rfl) ⟨(Nat.le_of_ble_eq_true rfl), (Nat.le_of_ble_eq_true rfl)⟩ (xle_r _) (xle_r _) ?_
    refine xV_if_eqB e_X3_chance_70 (fun h70 => ?_) (fun h70 => ?_)
    · refine xV_bipush (v := (nI 10)) e_X3_chance_77 (by decide) ?_
      refine xV_iload_n e_X3_chance_79 rfl ?_
      refine xV_isub e_X3_chance_80 ?_
      refine xV_imul e_X3_chance_81 ?_
      rw [pk_sub hx10, pk_mul]
      refine xV_istore e_X3_chance_82 (Nat.le_of_ble_eq_true rfl) rfl ?_
      refine xV_iincN e_X3_chance_84 rfl rfl ?_
      refine xV_goto e_X3_chance_87 ?_
      have q := ih (by omega)
      rw [wn, if_neg (bl_f (by rw [← ch_hs ks hk16 k (by omega)]; exact h70))] at q
      exact q
    · refine xV_iload_n e_X3_chance_73 rfl ?_
      refine xV_goto e_X3_chance_74 ?_
      refine xV_imulN e_X3_chance_81 ?_
      refine xV_istore e_X3_chance_82 (Nat.le_of_ble_eq_true rfl) rfl ?_
      refine xV_iincN e_X3_chance_84 rfl rfl ?_
      refine xV_goto e_X3_chance_87 ?_
      have q := ih (by omega)
      rw [wn, if_pos (by rw [← ch_hs ks hk16 k (by omega)]; exact h70)] at q
      exact q
set_option maxHeartbeats 4000000 in
set_option maxRecDepth 100000 in
theorem P_X3_chance_90 {m mo E : Nat} {S : xS} (hX : XM G T R m) (hmo : I m 5 = nI mo) (hB : GB mo (I (m + 2)) S) (hV : GV mo E S) (hho : I m 4 = S.1 5) (hPg : PR mo S (I (m + 3))) {x k : Nat} {c up : Int32} {P : Nat → Int32} {o : xO} (ho : o.1 = T) {j7 : Option Value}
    (hn : ∀ (Q : Nat → Int32) (j6 j7 : Option Value), xV G Y_X3_chance T o 35 [some (.ref m), some (.int c), some (.int (nI x)), some (.int up), some (.int (nI (sm (cM mo S c x) (k + 1)))), some (.int (nI (k + 1))), j6, j7] [] T R L (va_up I (m + 11) Q)) :
    xV G Y_X3_chance T o 90 [some (.ref m), some (.int c), some (.int (nI x)), some (.int up), some (.int (nI (sm (cM mo S c x) k))), some (.int (nI k)), some (.int (nI (wn x k mo))), j7] [] T R L (va_up I (m + 11) P) := by
  obtain ⟨m0, rt, st, rs, ss, rp, sp, rrp, srp, rrs, srs, rb, sb, rk, sk, ri, si, rc, sc, rv, sv, rr, sr⟩ := id hX
  have hm4 := hB.1.2.1
  obtain ⟨oT, oP⟩ := o
  subst ho
  refine xV_aload_n e_X3_chance_90 rfl ?_
  refine xV_cV0v e_X3_chance_91 c_X3_151 (by assumption) (C_X3_begin hX) (Nat.le_of_ble_eq_true rfl) ⟨(Nat.le_of_ble_eq_true rfl), (Nat.le_of_ble_eq_true rfl)⟩ (xle_r _) (xle_r _) ?_
  refine xV_aload_n e_X3_chance_94 rfl ?_
  refine xV_aload_n e_X3_chance_95 rfl ?_
  refine xV_getR e_X3_chance_96 f_X3_45 (by assumption) (by assumption) ?_
  refine xV_iload e_X3_chance_99 rfl ?_
  refine xV_cV2vP e_X3_chance_101 c_X3_168 (by assumption) (K_prayAll hX hmo hB hV hho sr ⟨by omega, by omega⟩ (hPg.cp hm4)) (Nat.le_of_ble_eq_true rfl) ⟨(Nat.le_of_ble_eq_true rfl), (Nat.le_of_ble_eq_true rfl)⟩ (xle_r _) (xle_r _) (fun R2 L2 J hq => ?_)
  obtain ⟨rfl, rfl, Q, rfl, hQ⟩ := hq
  refine xV_iload e_X3_chance_104 rfl ?_
  refine xV_aload_n e_X3_chance_106 rfl ?_
  refine xV_getR e_X3_chance_107 f_X3_45 (by assumption) (by assumption) ?_
  refine xV_bipush (v := (nI 48)) e_X3_chance_110 (by decide) ?_
  refine xV_ialdN e_X3_chance_112 (by first | exact xRow.vp (by assumption) | exact xRow.vo (by omega) (by assumption)) (by omega) (by omega) ?_
  refine xV_iload_n e_X3_chance_113 rfl ?_
  refine xV_cS2i e_X3_chance_114 c_X3_70 (C_X3_hasH) (Nat.le_of_ble_eq_true rfl) ⟨(Nat.le_of_ble_eq_true rfl), (Nat.le_of_ble_eq_true rfl)⟩ (xle_r _) (xle_r _) ?_
  refine xV_if_eqB e_X3_chance_117 (fun h117 => ?_) (fun h117 => ?_)
  · refine xV_iconst (v := (nI 0)) e_X3_chance_125 (by decide) ?_
    refine xV_iaddN e_X3_chance_126 ?_
    refine xV_istore e_X3_chance_127 (Nat.le_of_ble_eq_true rfl) rfl ?_
    refine xV_iincN e_X3_chance_129 rfl rfl ?_
    refine xV_goto e_X3_chance_132 ?_
    have ef : fBy mo S c k = 0 := if_neg (bl_f (by rw [← (show Q 48 = (gPa mo (nI k) S 4).1 9 from hQ.2.2.2.2.2.1)]; exact h117))
    rw [show sm (cM mo S c x) k + 0 = sm (cM mo S c x) (k + 1) from by rw [sm, cM, ef, Nat.zero_mul]]
    exact hn Q _ _
  · refine xV_iload e_X3_chance_120 rfl ?_
    refine xV_goto e_X3_chance_122 ?_
    refine xV_iaddN e_X3_chance_126 ?_
    refine xV_istore e_X3_chance_127 (Nat.le_of_ble_eq_true rfl) rfl ?_
    refine xV_iincN e_X3_chance_129 rfl rfl ?_
    refine xV_goto e_X3_chance_132 ?_
    have ef : fBy mo S c k = 1 := if_pos (by rw [← (show Q 48 = (gPa mo (nI k) S 4).1 9 from hQ.2.2.2.2.2.1)]; exact h117)
    rw [show sm (cM mo S c x) k + wn x k mo = sm (cM mo S c x) (k + 1) from by rw [sm, cM, ef, Nat.one_mul]]
    exact hn Q _ _
set_option maxHeartbeats 4000000 in
set_option maxRecDepth 100000 in
theorem P_X3_chance_35 {m mo E : Nat} {S : xS} (hX : XM G T R m) (hmo : I m 5 = nI mo) (hB : GB mo (I (m + 2)) S) (hV : GV mo E S) (hho : I m 4 = S.1 5) (hPg : PR mo S (I (m + 3))) {x : Nat} {c up : Int32} (hx10 : x ≤ 10) (hc : bCell c = true) : ∀ k, k ≤ 2 ^ mo → ∀ (P : Nat → Int32) (j6 j7 : Option Value), xV G Y_X3_chance T (T, fun o2 R2 L2 I2 => ∃ r, o2 = some (.int r) ∧ (r = qChance mo S c (nI x) up ∧ R2 = R ∧ L2 = L ∧ ∃ Q, I2 = va_up I (m + 11) Q)) 35 [some (.ref m), some (.int c), some (.int (nI x)), some (.int up), some (.int (nI (sm (cM mo S c x) k))), some (.int (nI k)), j6, j7] [] T R L (va_up I (m + 11) P) := by
  obtain ⟨m0, rt, st, rs, ss, rp, sp, rrp, srp, rrs, srs, rb, sb, rk, sk, ri, si, rc, sc, rv, sv, rr, sr⟩ := id hX
  have hm4 := hB.1.2.1
  have h16 := p2_le mo (by omega)
  refine xloop (2 ^ mo) (fun k hk0 ih => ?_)
  intro P j6 j7
  refine xV_iload e_X3_chance_35 rfl ?_
  refine xV_iconst (v := (nI 1)) e_X3_chance_37 (by decide) ?_
  refine xV_aload_n e_X3_chance_38 rfl ?_
  refine xV_getMO e_X3_chance_39 f_X3_51 m0 (by omega) hmo ?_
  refine xV_ishl e_X3_chance_42 ?_
  rw [p2_ok mo (by omega)]
  refine xV_icmp_geN e_X3_chance_43 (by omega) (by omega) (fun h43 => ?_) (fun h43 => ?_)
  · have hke : k = 2 ^ mo := by omega
    subst hke
    obtain ⟨hg0, hv⟩ := ch_val (up := up) hB hx10 hc
    have hle := cM_le (mo := mo) (S := S) (c := c) (k := 2 ^ mo) hm4 hx10 h16
    have hte : 10 ^ mo ≤ 10000 := Nat.pow_le_pow_right (n := 10) (by decide) hm4
    have hgl : Nat.gcd (sm (cM mo S c x) (2 ^ mo)) (10 ^ mo) ≤ 10000 := Nat.le_trans (Nat.gcd_le_right _ (Nat.pow_pos (by decide))) hte
    have hz := nI_ne0 hg0 (by omega)
    refine xV_aload_n e_X3_chance_135 rfl ?_
    refine xV_getMO e_X3_chance_136 f_X3_51 m0 (by omega) hmo ?_
    refine xV_cS1i e_X3_chance_139 c_X3_154 (C_X3_ten (by omega)) (Nat.le_of_ble_eq_true rfl) ⟨(Nat.le_of_ble_eq_true rfl), (Nat.le_of_ble_eq_true rfl)⟩ (xle_r _) (xle_r _) ?_
    refine xV_istore e_X3_chance_142 (Nat.le_of_ble_eq_true rfl) rfl ?_
    refine xV_iload e_X3_chance_144 rfl ?_
    refine xV_iload e_X3_chance_146 rfl ?_
    refine xV_cS2i e_X3_chance_148 c_X3_176 (C_X3_divisor (by omega) (by omega)) (Nat.le_of_ble_eq_true rfl) ⟨(Nat.le_of_ble_eq_true rfl), (Nat.le_of_ble_eq_true rfl)⟩ (xle_r _) (xle_r _) ?_
    refine xV_istore e_X3_chance_151 (Nat.le_of_ble_eq_true rfl) rfl ?_
    refine xV_iload_n e_X3_chance_153 rfl ?_
    refine xV_if_eq e_X3_chance_154 (fun h154 => ?_) (fun h154 => ?_)
    · refine xV_iload e_X3_chance_165 rfl ?_
      refine xV_iload e_X3_chance_167 rfl ?_
      refine xV_idiv e_X3_chance_169 (by first | assumption | decide) ?_
      rw [pk_div (by omega) hg0 (by omega)]
      exact xV_ireturn e_X3_chance_170 rfl rfl ⟨_, rfl, by rw [hv, if_pos h154], rfl, rfl, _, rfl⟩
    · refine xV_iload e_X3_chance_157 rfl ?_
      refine xV_iload e_X3_chance_159 rfl ?_
      refine xV_idiv e_X3_chance_161 (by first | assumption | decide) ?_
      rw [pk_div (by omega) hg0 (by omega)]
      refine xV_goto e_X3_chance_162 ?_
      exact xV_ireturn e_X3_chance_170 rfl rfl ⟨_, rfl, by rw [hv, if_neg h154], rfl, rfl, _, rfl⟩
  · refine xV_iconst (v := (nI 1)) e_X3_chance_46 (by decide) ?_
    refine xV_istore e_X3_chance_47 (Nat.le_of_ble_eq_true rfl) rfl ?_
    refine xV_iconst (v := (nI 0)) e_X3_chance_49 (by decide) ?_
    refine xV_istore e_X3_chance_50 (Nat.le_of_ble_eq_true rfl) rfl ?_
    exact P_X3_chance_52 hX hmo hm4 hx10 (by omega) (by rfl) (P_X3_chance_90 hX hmo hB hV hho hPg (by rfl) (fun Q j6 j7 => ih (by omega) Q j6 j7)) 0 (Nat.zero_le _)
set_option maxHeartbeats 4000000 in
set_option maxRecDepth 100000 in
theorem K_chanceP {m mo E : Nat} {S : xS} (hX : XM G T R m) (hmo : I m 5 = nI mo) (hB : GB mo (I (m + 2)) S) (hV : GV mo E S) (hho : I m 4 = S.1 5) (hPg : PR mo S (I (m + 3))) (h0 : I m 0 = nI 0) {P : Nat → Int32} {c xx up : Int32} : xCon G Y_X3_chance [.ref m, .int c, .int xx, .int up] T R L (va_up I (m + 11) P) ((T, fun o2 R2 L2 I2 => ∃ r, o2 = some (.int r) ∧ (r = qChance mo S c xx up ∧ R2 = R ∧ L2 = L ∧ ∃ Q, I2 = va_up I (m + 11) Q))) := by
  obtain ⟨m0, rt, st, rs, ss, rp, sp, rrp, srp, rrs, srs, rb, sb, rk, sk, ri, si, rc, sc, rv, sv, rr, sr⟩ := id hX
  have hm4 := hB.1.2.1
  refine xCon.mk (xl := [some (.ref m), some (.int c), some (.int xx), some (.int up), none, none, none, none]) (by decide +kernel) (xle_r _) rfl (Nat.le_of_ble_eq_true rfl) rfl ?_
  refine xV_aload_n e_X3_chance_0 rfl ?_
  refine xV_iconst (v := (nI 0)) e_X3_chance_1 (by decide) ?_
  refine xV_putI e_X3_chance_2 p_X3_48 (by assumption) ?_
  rw [xst_ownP h0]
  refine xV_iload_n e_X3_chance_5 rfl ?_
  refine xV_cS1i e_X3_chance_6 c_X3_114 (C_X3_noCell) (Nat.le_of_ble_eq_true rfl) ⟨(Nat.le_of_ble_eq_true rfl), (Nat.le_of_ble_eq_true rfl)⟩ (xle_r _) (xle_r _) ?_
  refine xV_if_eqB e_X3_chance_9 (fun h9 => ?_) (fun h9 => ?_)
  · refine xV_iload_n e_X3_chance_14 rfl ?_
    refine xV_i2l e_X3_chance_15 ?_
    refine xV_lconst (v := 0) e_X3_chance_16 (by decide) ?_
    refine xV_ldc2 e_X3_chance_17 k_X3_174 ?_
    refine xV_cS3i e_X3_chance_20 c_X3_54 (C_X3_in) (Nat.le_of_ble_eq_true rfl) ⟨(Nat.le_of_ble_eq_true rfl), (Nat.le_of_ble_eq_true rfl)⟩ (xle_r _) (xle_r _) ?_
    rw [bL_N (a := 0) (b := 10) (by decide) (by decide)]
    refine xV_if_neB e_X3_chance_23 (fun h23 => ?_) (fun h23 => ?_)
    · obtain ⟨x, h0x, hx10, rfl⟩ := bL_j (by decide) (by decide) h23
      refine xV_iconst (v := (nI 0)) e_X3_chance_29 (by decide) ?_
      refine xV_istore e_X3_chance_30 (Nat.le_of_ble_eq_true rfl) rfl ?_
      refine xV_iconst (v := (nI 0)) e_X3_chance_32 (by decide) ?_
      refine xV_istore e_X3_chance_33 (Nat.le_of_ble_eq_true rfl) rfl ?_
      exact P_X3_chance_35 hX hmo hB hV hho hPg hx10 (by simpa using h9) 0 (Nat.zero_le _) P none none
    · refine xV_bipush (v := (-2)) e_X3_chance_26 (by decide) ?_
      exact xV_ireturn e_X3_chance_28 rfl rfl ⟨_, rfl, (qCh_x (by simpa using h9) h23).symm, rfl, rfl, _, rfl⟩
  · refine xV_iconst (v := (-1)) e_X3_chance_12 (by decide) ?_
    exact xV_ireturn e_X3_chance_13 rfl rfl ⟨_, rfl, (qCh_c (by simpa using h9)).symm, rfl, rfl, _, rfl⟩
theorem K_chance {m mo E : Nat} {S : xS} (hX : XM G T R m) (hmo : I m 5 = nI mo) (hB : GB mo (I (m + 2)) S) (hV : GV mo E S) (hho : I m 4 = S.1 5) (hPg : PR mo S (I (m + 3))) (h0 : I m 0 = nI 0) {c xx up : Int32} : xCon G Y_X3_chance [.ref m, .int c, .int xx, .int up] T R L I (T, fun o2 R2 L2 I2 => ∃ r, o2 = some (.int r) ∧ (r = qChance mo S c xx up ∧ R2 = R ∧ L2 = L ∧ ∃ Q, I2 = va_up I (m + 11) Q)) := by
  have q := K_chanceP (L := L) (P := I (m + 11)) hX hmo hB hV hho hPg h0 (c := c) (xx := xx) (up := up)
  rwa [va_up_own] at q
end XMK
