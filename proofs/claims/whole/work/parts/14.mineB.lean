/-! MINE: prayers, falls, waves, days -/
section XMINB
variable {G : xG} {T : xT} {R : xR} {L : xL} {I : xI}
def plN (w : Nat → Int32) (m : Nat) : Nat := (w m).toNatClampNeg
def WP (w : Nat → Int32) (mo : Nat) : Prop := ∀ m, m < mo → w m = nI (plN w m) ∧ plN w m < 12
def vForce (mo : Nat) (f w5 : Nat → Int32) (mi : Nat) : Int32 :=
  if hs (vLiv f) (nI mi) = true then
    (if (vOn w5 ((nI 1 <<< (nI (plN w5 mi) &&& 31)) ||| xnear (plN w5 mi)) mo &&& (if hs (f 7) (nI mi) = true then f 7 ^^^ (-1) else f 7) &&& vLiv f) = 0 then nI 1 else nI 2)
  else nI 0
def gLb (mo : Nat) (S : xS) (mi : Nat) : xS :=
  (S.1, S.2.1, lsn (xnear (plN S.2.2.2.2.2 mi) &&& (S.1 9 ^^^ (-1))) (vForce mo S.1 S.2.2.2.2.2 mi) (lsn ((nI 1 <<< (nI (plN S.2.2.2.2.2 mi) &&& 31)) &&& (S.1 9 ^^^ (-1))) (nI 2 * vForce mo S.1 S.2.2.2.2.2 mi) S.2.2.1 12) 12, S.2.2.2.1,
    (if hs (S.1 9) (nI (plN S.2.2.2.2.2 mi)) = true then S.2.2.2.2.1 else upd S.2.2.2.2.1 (plN S.2.2.2.2.2 mi) (S.2.2.2.2.1 (plN S.2.2.2.2.2 mi) + nI 1)), S.2.2.2.2.2)
def zd (due : Int32) (w : Nat → Int32) (n : Nat) : Nat → Int32 := fun c => if c < n ∧ hs due (nI c) = true then nI 0 else w c
theorem zd_0 (due : Int32) (w : Nat → Int32) : zd due w 0 = w := by funext c; simp [zd]
theorem zd_at (due : Int32) (w : Nat → Int32) (n : Nat) : zd due w n n = w n := by simp [zd]
theorem zd_t {due : Int32} {w : Nat → Int32} {n : Nat} (h : hs due (nI n) = true) : zd due w (n + 1) = upd (zd due w n) n (nI 0) := by
  funext c
  by_cases e : c = n
  · subst e; simp [zd, upd, h]
  · have : c < n + 1 ↔ c < n := by omega
    simp [zd, upd, e, this]
theorem zd_f {due : Int32} {w : Nat → Int32} {n : Nat} (h : hs due (nI n) = false) : zd due w (n + 1) = zd due w n := by
  funext c
  by_cases e : c = n
  · subst e; simp [zd, h]
  · have : c < n + 1 ↔ c < n := by omega
    simp [zd, this]
def vTk (due : Int32) (w1 : Nat → Int32) (t0 : Int32) : Nat → Int32
  | 0 => t0
  | n + 1 => if hs due (nI n) = true then vTk due w1 t0 n + w1 n else vTk due w1 t0 n
theorem vTk_t {due t0 : Int32} {w1 : Nat → Int32} {n : Nat} (h : hs due (nI n) = true) : vTk due w1 t0 (n + 1) = vTk due w1 t0 n + w1 n := by rw [vTk, if_pos h]
theorem vTk_f {due t0 : Int32} {w1 : Nat → Int32} {n : Nat} (h : hs due (nI n) = false) : vTk due w1 t0 (n + 1) = vTk due w1 t0 n := by rw [vTk, if_neg (by rw [h]; decide)]
def vBl (due fal : Int32) (w2 : Nat → Int32) : Nat → Nat → Int32
  | 0 => w2
  | n + 1 => if hs due (nI n) = true then lsn (xnear n &&& (fal ^^^ (-1))) (nI 1) (upd (vBl due fal w2 n) n (nI 0)) 12 else vBl due fal w2 n
theorem vBl_t {due fal : Int32} {w2 : Nat → Int32} {n : Nat} (h : hs due (nI n) = true) : vBl due fal w2 (n + 1) = lsn (xnear n &&& (fal ^^^ (-1))) (nI 1) (upd (vBl due fal w2 n) n (nI 0)) 12 := by rw [vBl, if_pos h]
theorem vBl_f {due fal : Int32} {w2 : Nat → Int32} {n : Nat} (h : hs due (nI n) = false) : vBl due fal w2 (n + 1) = vBl due fal w2 n := by rw [vBl, if_neg (by rw [h]; decide)]
def fFl (mo : Nat) (f w5 : Nat → Int32) (due : Int32) : Nat → Int32 := upd (upd f 9 (f 9 ||| due)) 8 (f 8 ||| vOn w5 due mo)
def gFell (mo : Nat) (S : xS) (due : Int32) : xS :=
  (upd (fFl mo S.1 S.2.2.2.2.2 due) 10 (vTk due S.2.1 (S.1 10) 12), zd due S.2.1 12, vBl due (S.1 9 ||| due) S.2.2.1 12, zd due S.2.2.2.1 12, zd due S.2.2.2.2.1 12, S.2.2.2.2.2)
def gDue (S : xS) : Int32 := vDue S.1 S.2.2.1 S.2.2.2.1 12
def wv (mo : Nat) : Nat → xS → xS
  | 0, S => S
  | n + 1, S => if gDue S = 0 then S else wv mo n (gFell mo S (gDue S))
theorem wv_z {mo n : Nat} {S : xS} (h : gDue S = 0) : wv mo n S = S := by
  cases n with
  | zero => rfl
  | succ n => rw [wv, if_pos h]
theorem wv_s {mo k : Nat} {S : xS} (hk : k < 12) (h : ¬ gDue S = 0) : wv mo (12 - k) S = wv mo (12 - (k + 1)) (gFell mo S (gDue S)) := by
  obtain ⟨n, hn⟩ : ∃ n, 12 - k = n + 1 := ⟨11 - k, by omega⟩
  rw [hn, wv, if_neg h, show n = 12 - (k + 1) by omega]
def gPr (mo : Nat) (S : xS) (mi : Nat) : xS := wv mo 12 (gLb mo S mi)
def vPr (mo : Nat) (S : xS) (mi : Nat) : Int32 := (gPr mo S mi).1 9 &&& (S.1 9 ^^^ (-1))
def gPa (mo : Nat) (set : Int32) (S : xS) : Nat → xS
  | 0 => S
  | n + 1 => if (hs set (nI n) && bLiv (gPa mo set S n).1 (nI n)) = true then gPr mo (gPa mo set S n) n else gPa mo set S n
theorem gPa_f {mo n : Nat} {set : Int32} {S : xS} (h : hs set (nI n) = false ∨ bLiv (gPa mo set S n).1 (nI n) = false) : gPa mo set S (n + 1) = gPa mo set S n := by
  rw [gPa, if_neg]
  rcases h with h | h <;> simp [h]
theorem gPa_t {mo n : Nat} {set : Int32} {S : xS} (h : hs set (nI n) = true) (h2 : bLiv (gPa mo set S n).1 (nI n) = true) : gPa mo set S (n + 1) = gPr mo (gPa mo set S n) n := by
  rw [gPa, if_pos (by rw [h, h2]; rfl)]
def vEd (f w4 : Nat → Int32) (w2 : Nat → Int32) : Nat → Nat → Int32
  | 0 => w2
  | n + 1 => lsn ((nI 1 <<< (nI n &&& 31)) &&& (f 9 ^^^ (-1))) (w4 n) (vEd f w4 w2 n) 12
def gEd (mo : Nat) (S : xS) : xS := wv mo 12 (upd S.1 11 (S.1 11 + nI 1), S.2.1, vEd S.1 S.2.2.2.2.1 S.2.2.1 12, S.2.2.2.1, zr S.2.2.2.2.1 12, S.2.2.2.2.2)
def vEdv (mo : Nat) (S : xS) : Int32 := (gEd mo S).1 9 &&& (S.1 9 ^^^ (-1))
-- what stays: HOLD, MONKS, sects, places
def keepS (S S' : xS) : Prop := S'.1 5 = S.1 5 ∧ S'.1 6 = S.1 6 ∧ S'.1 7 = S.1 7 ∧ S'.2.2.2.2.2 = S.2.2.2.2.2
theorem keepS.rf (S : xS) : keepS S S := ⟨rfl, rfl, rfl, rfl⟩
theorem keepS.tr {S S' S'' : xS} (a : keepS S S') (b : keepS S' S'') : keepS S S'' := ⟨b.1.trans a.1, b.2.1.trans a.2.1, b.2.2.1.trans a.2.2.1, b.2.2.2.trans a.2.2.2⟩
theorem keep_lb (mo : Nat) (S : xS) (mi : Nat) : keepS S (gLb mo S mi) := ⟨rfl, rfl, rfl, rfl⟩
theorem keep_fell (mo : Nat) (S : xS) (due : Int32) : keepS S (gFell mo S due) := ⟨rfl, rfl, rfl, rfl⟩
theorem keep_wv (mo : Nat) : ∀ (n : Nat) (S : xS), keepS S (wv mo n S) := by
  intro n
  induction n with
  | zero => intro S; exact keepS.rf S
  | succ n ih =>
    intro S
    rw [wv]
    split
    · exact keepS.rf S
    · exact (keep_fell mo S _).tr (ih _)
theorem keep_pr (mo : Nat) (S : xS) (mi : Nat) : keepS S (gPr mo S mi) := (keep_lb mo S mi).tr (keep_wv mo 12 _)
theorem keep_pa (mo : Nat) (set : Int32) (S : xS) : ∀ n, keepS S (gPa mo set S n) := by
  intro n
  induction n with
  | zero => exact keepS.rf S
  | succ n ih =>
    rw [gPa]
    split
    · exact ih.tr (keep_pr mo _ n)
    · exact ih
theorem keep_ed (mo : Nat) (S : xS) : keepS S (gEd mo S) := by
  unfold gEd
  exact keepS.tr (S' := (upd S.1 11 (S.1 11 + nI 1), S.2.1, vEd S.1 S.2.2.2.2.1 S.2.2.1 12, S.2.2.2.1, zr S.2.2.2.2.1 12, S.2.2.2.2.2)) ⟨rfl, rfl, rfl, rfl⟩ (keep_wv mo 12 _)
theorem upd_twice (f : Nat → Int32) (i : Nat) (x y : Int32) : upd (upd f i x) i y = upd f i y := by
  funext j
  by_cases e : j = i
  · subst e; simp [upd]
  · simp [upd, e]
theorem upd_own (f : Nat → Int32) (i : Nat) : upd f i (f i) = f := by
  funext j
  by_cases e : j = i
  · subst e; simp [upd]
  · simp [upd, e]
set_option maxHeartbeats 4000000 in
set_option maxRecDepth 100000 in
theorem C_X0_forceOf {f w1 w2 w3 w4 w5 : Nat → Int32} {h : Nat} (hm : MinS G T R h) {mo : Nat} (hmo : f 6 = nI mo) (hm4 : mo ≤ 4) {mi : Nat} (hw : WP w5 mo) (hmi : mi < mo) : xCon G Y_X0_forceOf [.ref h, .int (nI mi)] T R L (pm I h (f, w1, w2, w3, w4, w5)) (xD (some (.int (vForce mo f w5 mi))) T R L (pm I h (f, w1, w2, w3, w4, w5))) := by
  obtain ⟨m0, r0, r1, r2, r3, r4, s1, s2, s3, s4, s5⟩ := id hm
  obtain ⟨hp, hpl⟩ := hw mi hmi
  refine xCon.mk (xl := [some (.ref h), some (.int (nI mi)), none, none, none, none]) (by decide +kernel) (xle_r _) rfl (Nat.le_of_ble_eq_true rfl) rfl ?_
  refine xV_aload_n e_X0_forceOf_0 rfl ?_
  refine xV_cV0i e_X0_forceOf_1 c_X0_75 (by assumption) (C_X0_living hm) (Nat.le_of_ble_eq_true rfl) ⟨(Nat.le_of_ble_eq_true rfl), (Nat.le_of_ble_eq_true rfl)⟩ (xle_r _) (xle_r _) ?_
  refine xV_istore_n e_X0_forceOf_4 (Nat.le_of_ble_eq_true rfl) rfl ?_
  refine xV_iload_n e_X0_forceOf_5 rfl ?_
  refine xV_iload_n e_X0_forceOf_6 rfl ?_
  refine xV_cS2i e_X0_forceOf_7 c_X0_59 (C_X2_has) (Nat.le_of_ble_eq_true rfl) ⟨(Nat.le_of_ble_eq_true rfl), (Nat.le_of_ble_eq_true rfl)⟩ (xle_r _) (xle_r _) ?_
  refine xV_if_neB e_X0_forceOf_10 (fun h10 => ?_) (fun h10 => ?_)
  · refine xV_aload_n e_X0_forceOf_15 rfl ?_
    refine xV_iload_n e_X0_forceOf_16 rfl ?_
    refine xV_cV1i e_X0_forceOf_17 c_X0_79 (by assumption) (C_X0_placeN hm (by omega) hp) (Nat.le_of_ble_eq_true rfl) ⟨(Nat.le_of_ble_eq_true rfl), (Nat.le_of_ble_eq_true rfl)⟩ (xle_r _) (xle_r _) ?_
    refine xV_istore_n e_X0_forceOf_20 (Nat.le_of_ble_eq_true rfl) rfl ?_
    refine xV_aload_n e_X0_forceOf_21 rfl ?_
    refine xV_getF e_X0_forceOf_22 f_X0_38 (by assumption) ?_
    refine xV_iload_n e_X0_forceOf_25 rfl ?_
    refine xV_cS2i e_X0_forceOf_26 c_X0_59 (C_X2_has) (Nat.le_of_ble_eq_true rfl) ⟨(Nat.le_of_ble_eq_true rfl), (Nat.le_of_ble_eq_true rfl)⟩ (xle_r _) (xle_r _) ?_
    refine xV_if_eqB e_X0_forceOf_29 (fun h29 => ?_) (fun h29 => ?_)
    · refine xV_aload_n e_X0_forceOf_41 rfl ?_
      refine xV_getF e_X0_forceOf_42 f_X0_38 (by assumption) ?_
      refine xV_istore e_X0_forceOf_45 (Nat.le_of_ble_eq_true rfl) rfl ?_
      refine xV_aload_n e_X0_forceOf_47 rfl ?_
      refine xV_iconst (v := (nI 1)) e_X0_forceOf_48 (by decide) ?_
      refine xV_iload_n e_X0_forceOf_49 rfl ?_
      refine xV_ishl e_X0_forceOf_50 ?_
      refine xV_nearN e_X0_forceOf_51 f_X0_83 ?_
      refine xV_iload_n e_X0_forceOf_54 rfl ?_
      refine xV_cS2i e_X0_forceOf_55 c_X0_67 (C_X2_atN xRow.near hpl (by omega)) (Nat.le_of_ble_eq_true rfl) ⟨(Nat.le_of_ble_eq_true rfl), (Nat.le_of_ble_eq_true rfl)⟩ (xle_r _) (xle_r _) ?_
      refine xV_ior e_X0_forceOf_58 ?_
      refine xV_cV1i e_X0_forceOf_59 c_X0_86 (by assumption) (C_X0_monksOn hm hmo hm4) (Nat.le_of_ble_eq_true rfl) ⟨(Nat.le_of_ble_eq_true rfl), (Nat.le_of_ble_eq_true rfl)⟩ (xle_r _) (xle_r _) ?_
      refine xV_istore e_X0_forceOf_62 (Nat.le_of_ble_eq_true rfl) rfl ?_
      refine xV_iload e_X0_forceOf_64 rfl ?_
      refine xV_iload e_X0_forceOf_66 rfl ?_
      refine xV_iand e_X0_forceOf_68 ?_
      refine xV_iload_n e_X0_forceOf_69 rfl ?_
      refine xV_iand e_X0_forceOf_70 ?_
      refine xV_if_eq e_X0_forceOf_71 (fun h71 => ?_) (fun h71 => ?_)
      · refine xV_iconst (v := (nI 1)) e_X0_forceOf_78 (by decide) ?_
        exact xV_ireturn e_X0_forceOf_79 rfl rfl ⟨by rw [vForce, if_pos h10, show (if hs (f 7) (nI mi) = true then f 7 ^^^ (-1) else f 7) = f 7 from if_neg (by rw [h29]; decide), if_pos h71], rfl, rfl, rfl⟩
      · refine xV_iconst (v := (nI 2)) e_X0_forceOf_74 (by decide) ?_
        refine xV_goto e_X0_forceOf_75 ?_
        exact xV_ireturn e_X0_forceOf_79 rfl rfl ⟨by rw [vForce, if_pos h10, show (if hs (f 7) (nI mi) = true then f 7 ^^^ (-1) else f 7) = f 7 from if_neg (by rw [h29]; decide), if_neg h71], rfl, rfl, rfl⟩
    · refine xV_aload_n e_X0_forceOf_32 rfl ?_
      refine xV_getF e_X0_forceOf_33 f_X0_38 (by assumption) ?_
      refine xV_iconst (v := (-1)) e_X0_forceOf_36 (by decide) ?_
      refine xV_ixor e_X0_forceOf_37 ?_
      refine xV_goto e_X0_forceOf_38 ?_
      refine xV_istore e_X0_forceOf_45 (Nat.le_of_ble_eq_true rfl) rfl ?_
      refine xV_aload_n e_X0_forceOf_47 rfl ?_
      refine xV_iconst (v := (nI 1)) e_X0_forceOf_48 (by decide) ?_
      refine xV_iload_n e_X0_forceOf_49 rfl ?_
      refine xV_ishl e_X0_forceOf_50 ?_
      refine xV_nearN e_X0_forceOf_51 f_X0_83 ?_
      refine xV_iload_n e_X0_forceOf_54 rfl ?_
      refine xV_cS2i e_X0_forceOf_55 c_X0_67 (C_X2_atN xRow.near hpl (by omega)) (Nat.le_of_ble_eq_true rfl) ⟨(Nat.le_of_ble_eq_true rfl), (Nat.le_of_ble_eq_true rfl)⟩ (xle_r _) (xle_r _) ?_
      refine xV_ior e_X0_forceOf_58 ?_
      refine xV_cV1i e_X0_forceOf_59 c_X0_86 (by assumption) (C_X0_monksOn hm hmo hm4) (Nat.le_of_ble_eq_true rfl) ⟨(Nat.le_of_ble_eq_true rfl), (Nat.le_of_ble_eq_true rfl)⟩ (xle_r _) (xle_r _) ?_
      refine xV_istore e_X0_forceOf_62 (Nat.le_of_ble_eq_true rfl) rfl ?_
      refine xV_iload e_X0_forceOf_64 rfl ?_
      refine xV_iload e_X0_forceOf_66 rfl ?_
      refine xV_iand e_X0_forceOf_68 ?_
      refine xV_iload_n e_X0_forceOf_69 rfl ?_
      refine xV_iand e_X0_forceOf_70 ?_
      refine xV_if_eq e_X0_forceOf_71 (fun h71 => ?_) (fun h71 => ?_)
      · refine xV_iconst (v := (nI 1)) e_X0_forceOf_78 (by decide) ?_
        exact xV_ireturn e_X0_forceOf_79 rfl rfl ⟨by rw [vForce, if_pos h10, show (if hs (f 7) (nI mi) = true then f 7 ^^^ (-1) else f 7) = f 7 ^^^ (-1) from if_pos h29, if_pos h71], rfl, rfl, rfl⟩
      · refine xV_iconst (v := (nI 2)) e_X0_forceOf_74 (by decide) ?_
        refine xV_goto e_X0_forceOf_75 ?_
        exact xV_ireturn e_X0_forceOf_79 rfl rfl ⟨by rw [vForce, if_pos h10, show (if hs (f 7) (nI mi) = true then f 7 ^^^ (-1) else f 7) = f 7 ^^^ (-1) from if_pos h29, if_neg h71], rfl, rfl, rfl⟩
  · refine xV_iconst (v := (nI 0)) e_X0_forceOf_13 (by decide) ?_
    exact xV_ireturn e_X0_forceOf_14 rfl rfl ⟨by rw [vForce, if_neg (by rw [h10]; decide)], rfl, rfl, rfl⟩
set_option maxHeartbeats 4000000 in
set_option maxRecDepth 100000 in
theorem C_X0_loosenBy {f w1 w2 w3 w4 w5 : Nat → Int32} {h : Nat} (hm : MinS G T R h) {mo : Nat} (hmo : f 6 = nI mo) (hm4 : mo ≤ 4) {mi : Nat} (hw : WP w5 mo) (hmi : mi < mo) : xCon G Y_X0_loosenBy [.ref h, .int (nI mi)] T R L (pm I h (f, w1, w2, w3, w4, w5)) (xD (none) T R L (pm I h (f, w1, lsn (xnear (plN w5 mi) &&& (f 9 ^^^ (-1))) (vForce mo f w5 mi) (lsn ((nI 1 <<< (nI (plN w5 mi) &&& 31)) &&& (f 9 ^^^ (-1))) (nI 2 * vForce mo f w5 mi) w2 12) 12, w3, (if hs (f 9) (nI (plN w5 mi)) = true then w4 else upd w4 (plN w5 mi) (w4 (plN w5 mi) + nI 1)), w5))) := by
  obtain ⟨m0, r0, r1, r2, r3, r4, s1, s2, s3, s4, s5⟩ := id hm
  obtain ⟨hp, hpl⟩ := hw mi hmi
  refine xCon.mk (xl := [some (.ref h), some (.int (nI mi)), none, none]) (by decide +kernel) (xle_r _) rfl (Nat.le_of_ble_eq_true rfl) rfl ?_
  refine xV_aload_n e_X0_loosenBy_0 rfl ?_
  refine xV_iload_n e_X0_loosenBy_1 rfl ?_
  refine xV_cV1i e_X0_loosenBy_2 c_X0_105 (by assumption) (C_X0_forceOf hm hmo hm4 hw hmi) (Nat.le_of_ble_eq_true rfl) ⟨(Nat.le_of_ble_eq_true rfl), (Nat.le_of_ble_eq_true rfl)⟩ (xle_r _) (xle_r _) ?_
  refine xV_istore_n e_X0_loosenBy_5 (Nat.le_of_ble_eq_true rfl) rfl ?_
  refine xV_aload_n e_X0_loosenBy_6 rfl ?_
  refine xV_iload_n e_X0_loosenBy_7 rfl ?_
  refine xV_cV1i e_X0_loosenBy_8 c_X0_79 (by assumption) (C_X0_placeN hm (by omega) hp) (Nat.le_of_ble_eq_true rfl) ⟨(Nat.le_of_ble_eq_true rfl), (Nat.le_of_ble_eq_true rfl)⟩ (xle_r _) (xle_r _) ?_
  refine xV_istore_n e_X0_loosenBy_11 (Nat.le_of_ble_eq_true rfl) rfl ?_
  refine xV_aload_n e_X0_loosenBy_12 rfl ?_
  refine xV_iconst (v := (nI 1)) e_X0_loosenBy_13 (by decide) ?_
  refine xV_iload_n e_X0_loosenBy_14 rfl ?_
  refine xV_ishl e_X0_loosenBy_15 ?_
  refine xV_iconst (v := (nI 2)) e_X0_loosenBy_16 (by decide) ?_
  refine xV_iload_n e_X0_loosenBy_17 rfl ?_
  refine xV_imul e_X0_loosenBy_18 ?_
  refine xV_cV2v e_X0_loosenBy_19 c_X0_101 (by assumption) (C_X0_loosen hm) (Nat.le_of_ble_eq_true rfl) ⟨(Nat.le_of_ble_eq_true rfl), (Nat.le_of_ble_eq_true rfl)⟩ (xle_r _) (xle_r _) ?_
  refine xV_aload_n e_X0_loosenBy_22 rfl ?_
  refine xV_nearN e_X0_loosenBy_23 f_X0_83 ?_
  refine xV_iload_n e_X0_loosenBy_26 rfl ?_
  refine xV_cS2i e_X0_loosenBy_27 c_X0_67 (C_X2_atN xRow.near hpl (by omega)) (Nat.le_of_ble_eq_true rfl) ⟨(Nat.le_of_ble_eq_true rfl), (Nat.le_of_ble_eq_true rfl)⟩ (xle_r _) (xle_r _) ?_
  refine xV_iload_n e_X0_loosenBy_30 rfl ?_
  refine xV_cV2v e_X0_loosenBy_31 c_X0_101 (by assumption) (C_X0_loosen hm) (Nat.le_of_ble_eq_true rfl) ⟨(Nat.le_of_ble_eq_true rfl), (Nat.le_of_ble_eq_true rfl)⟩ (xle_r _) (xle_r _) ?_
  refine xV_aload_n e_X0_loosenBy_34 rfl ?_
  refine xV_iload_n e_X0_loosenBy_35 rfl ?_
  refine xV_cV1i e_X0_loosenBy_36 c_X0_108 (by assumption) (C_X0_isFallen hm) (Nat.le_of_ble_eq_true rfl) ⟨(Nat.le_of_ble_eq_true rfl), (Nat.le_of_ble_eq_true rfl)⟩ (xle_r _) (xle_r _) ?_
  refine xV_if_neB e_X0_loosenBy_39 (fun h39 => ?_) (fun h39 => ?_)
  · exact xV_return e_X0_loosenBy_60 rfl rfl ⟨rfl, rfl, rfl, by rw [if_pos h39]⟩
  · refine xV_aload_n e_X0_loosenBy_42 rfl ?_
    refine xV_getR e_X0_loosenBy_43 f_X0_21 (by assumption) (by assumption) ?_
    refine xV_iload_n e_X0_loosenBy_46 rfl ?_
    refine xV_aload_n e_X0_loosenBy_47 rfl ?_
    refine xV_getR e_X0_loosenBy_48 f_X0_21 (by assumption) (by assumption) ?_
    refine xV_iload_n e_X0_loosenBy_51 rfl ?_
    refine xV_cS2i e_X0_loosenBy_52 c_X0_67 (C_X2_atN (xRow.p4 s4) hpl (by omega)) (Nat.le_of_ble_eq_true rfl) ⟨(Nat.le_of_ble_eq_true rfl), (Nat.le_of_ble_eq_true rfl)⟩ (xle_r _) (xle_r _) ?_
    refine xV_iconst (v := (nI 1)) e_X0_loosenBy_55 (by decide) ?_
    refine xV_iadd e_X0_loosenBy_56 ?_
    refine xV_cS3v e_X0_loosenBy_57 c_X0_71 (C_X2_put4 s4 hpl (by omega)) (Nat.le_of_ble_eq_true rfl) ⟨(Nat.le_of_ble_eq_true rfl), (Nat.le_of_ble_eq_true rfl)⟩ (xle_r _) (xle_r _) ?_
    exact xV_return e_X0_loosenBy_60 rfl rfl ⟨rfl, rfl, rfl, by rw [if_neg (by rw [h39]; decide)]⟩
set_option maxHeartbeats 4000000 in
set_option maxRecDepth 100000 in
theorem P_X0_fell_26 {f w1 w2 w3 w4 w5 : Nat → Int32} {h : Nat} (hm : MinS G T R h) {mo : Nat} (hmo : f 6 = nI mo) (hm4 : mo ≤ 4) {due : Int32} : ∀ k, k ≤ 12 → xV G Y_X0_fell T (xD (none) T R L (pm I h (upd (fFl mo f w5 due) 10 (vTk due w1 (f 10) 12), zd due w1 12, vBl due (f 9 ||| due) w2 12, zd due w3 12, zd due w4 12, w5))) 26 [some (.ref h), some (.int due), some (.int (nI k))] [] T R L (pm I h (upd (fFl mo f w5 due) 10 (vTk due w1 (f 10) k), zd due w1 k, vBl due (f 9 ||| due) w2 k, zd due w3 k, zd due w4 k, w5)) := by
  obtain ⟨m0, r0, r1, r2, r3, r4, s1, s2, s3, s4, s5⟩ := id hm
  refine xloop 12 (fun k hk ih => ?_)
  refine xV_iload_n e_X0_fell_26 rfl ?_
  refine xV_bipush (v := (nI 12)) e_X0_fell_27 (by decide) ?_
  refine xV_icmp_geN e_X0_fell_29 (by omega) (by omega) (fun h29 => ?_) (fun h29 => ?_)
  · obtain rfl : k = 12 := by omega
    exact xV_return e_X0_fell_80 rfl rfl ⟨rfl, rfl, rfl, rfl⟩
  · refine xV_iload_n e_X0_fell_32 rfl ?_
    refine xV_iload_n e_X0_fell_33 rfl ?_
    refine xV_cS2i e_X0_fell_34 c_X0_59 (C_X2_has) (Nat.le_of_ble_eq_true rfl) ⟨(Nat.le_of_ble_eq_true rfl), (Nat.le_of_ble_eq_true rfl)⟩ (xle_r _) (xle_r _) ?_
    refine xV_if_eqB e_X0_fell_37 (fun h37 => ?_) (fun h37 => ?_)
    · refine xV_iincN e_X0_fell_74 rfl rfl ?_
      refine xV_goto e_X0_fell_77 ?_
      have q := ih (by omega)
      rw [vTk_f (n := k) h37, zd_f (n := k) h37, zd_f (n := k) h37, zd_f (n := k) h37, vBl_f (n := k) h37] at q
      exact q
    · refine xV_aload_n e_X0_fell_40 rfl ?_
      refine xV_dup e_X0_fell_41 rfl ?_
      refine xV_getF e_X0_fell_42 f_X0_47 (by assumption) ?_
      refine xV_aload_n e_X0_fell_45 rfl ?_
      refine xV_getR e_X0_fell_46 f_X0_9 (by assumption) (by assumption) ?_
      refine xV_iload_n e_X0_fell_49 rfl ?_
      refine xV_cS2i e_X0_fell_50 c_X0_67 (C_X2_atN (xRow.p1 s1) (by omega) (by omega)) (Nat.le_of_ble_eq_true rfl) ⟨(Nat.le_of_ble_eq_true rfl), (Nat.le_of_ble_eq_true rfl)⟩ (xle_r _) (xle_r _) ?_
      refine xV_iadd e_X0_fell_53 ?_
      refine xV_putF e_X0_fell_54 p_X0_47 (by assumption) ?_
      refine xV_aload_n e_X0_fell_57 rfl ?_
      refine xV_iload_n e_X0_fell_58 rfl ?_
      refine xV_cV1v e_X0_fell_59 c_X0_31 (by assumption) (C_X0_empty hm (by omega)) (Nat.le_of_ble_eq_true rfl) ⟨(Nat.le_of_ble_eq_true rfl), (Nat.le_of_ble_eq_true rfl)⟩ (xle_r _) (xle_r _) ?_
      refine xV_aload_n e_X0_fell_62 rfl ?_
      refine xV_nearN e_X0_fell_63 f_X0_83 ?_
      refine xV_iload_n e_X0_fell_66 rfl ?_
      refine xV_cS2i e_X0_fell_67 c_X0_67 (C_X2_atN xRow.near (by omega) (by omega)) (Nat.le_of_ble_eq_true rfl) ⟨(Nat.le_of_ble_eq_true rfl), (Nat.le_of_ble_eq_true rfl)⟩ (xle_r _) (xle_r _) ?_
      refine xV_iconst (v := (nI 1)) e_X0_fell_70 (by decide) ?_
      refine xV_cV2v e_X0_fell_71 c_X0_101 (by assumption) (C_X0_loosen hm) (Nat.le_of_ble_eq_true rfl) ⟨(Nat.le_of_ble_eq_true rfl), (Nat.le_of_ble_eq_true rfl)⟩ (xle_r _) (xle_r _) ?_
      refine xV_iincN e_X0_fell_74 rfl rfl ?_
      refine xV_goto e_X0_fell_77 ?_
      have q := ih (by omega)
      rw [vTk_t (n := k) h37, zd_t (n := k) h37, zd_t (n := k) h37, zd_t (n := k) h37, vBl_t (n := k) h37] at q
      simp only [upd_twice, zd_at]
      exact q
set_option maxHeartbeats 4000000 in
set_option maxRecDepth 100000 in
theorem C_X0_fell {f w1 w2 w3 w4 w5 : Nat → Int32} {h : Nat} (hm : MinS G T R h) {mo : Nat} (hmo : f 6 = nI mo) (hm4 : mo ≤ 4) {due : Int32} : xCon G Y_X0_fell [.ref h, .int due] T R L (pm I h (f, w1, w2, w3, w4, w5)) (xD (none) T R L (pm I h (gFell mo (f, w1, w2, w3, w4, w5) due))) := by
  obtain ⟨m0, r0, r1, r2, r3, r4, s1, s2, s3, s4, s5⟩ := id hm
  refine xCon.mk (xl := [some (.ref h), some (.int due), none]) (by decide +kernel) (xle_r _) rfl (Nat.le_of_ble_eq_true rfl) rfl ?_
  refine xV_aload_n e_X0_fell_0 rfl ?_
  refine xV_dup e_X0_fell_1 rfl ?_
  refine xV_getF e_X0_fell_2 f_X0_44 (by assumption) ?_
  refine xV_iload_n e_X0_fell_5 rfl ?_
  refine xV_ior e_X0_fell_6 ?_
  refine xV_putF e_X0_fell_7 p_X0_44 (by assumption) ?_
  refine xV_aload_n e_X0_fell_10 rfl ?_
  refine xV_dup e_X0_fell_11 rfl ?_
  refine xV_getF e_X0_fell_12 f_X0_41 (by assumption) ?_
  refine xV_aload_n e_X0_fell_15 rfl ?_
  refine xV_iload_n e_X0_fell_16 rfl ?_
  refine xV_cV1i e_X0_fell_17 c_X0_86 (by assumption) (C_X0_monksOn (f := upd f 9 (f 9 ||| due)) hm hmo hm4) (Nat.le_of_ble_eq_true rfl) ⟨(Nat.le_of_ble_eq_true rfl), (Nat.le_of_ble_eq_true rfl)⟩ (xle_r _) (xle_r _) ?_
  refine xV_ior e_X0_fell_20 ?_
  refine xV_putF e_X0_fell_21 p_X0_41 (by assumption) ?_
  refine xV_iconst (v := (nI 0)) e_X0_fell_24 (by decide) ?_
  refine xV_istore_n e_X0_fell_25 (Nat.le_of_ble_eq_true rfl) rfl ?_
  have q := P_X0_fell_26 (L := L) (I := I) (f := f) (w1 := w1) (w2 := w2) (w3 := w3) (w4 := w4) (w5 := w5) (due := due) hm hmo hm4 0 (Nat.zero_le _)
  rw [zd_0, zd_0, zd_0, vTk, vBl, show upd (fFl mo f w5 due) 10 (f 10) = fFl mo f w5 due from upd_own (fFl mo f w5 due) 10] at q
  exact q
set_option maxHeartbeats 4000000 in
set_option maxRecDepth 100000 in
theorem P_X0_waves_7 {h mo : Nat} {bf : Int32} (hm : MinS G T R h) (hm4 : mo ≤ 4) : ∀ k, k ≤ 12 → ∀ (j : Option Value) (f w1 w2 w3 w4 w5 : Nat → Int32) (hmo : f 6 = nI mo), xV G Y_X0_waves T (xD (some (.int ((wv mo (12 - k) (f, w1, w2, w3, w4, w5)).1 9 &&& (bf ^^^ (-1))))) T R L (pm I h (wv mo (12 - k) (f, w1, w2, w3, w4, w5)))) 7 [some (.ref h), some (.int bf), some (.int (nI k)), none] [] T R L (pm I h (f, w1, w2, w3, w4, w5)) := by
  obtain ⟨m0, r0, r1, r2, r3, r4, s1, s2, s3, s4, s5⟩ := id hm
  refine xloop 12 (fun k hk ih => ?_)
  intro j f w1 w2 w3 w4 w5 hmo
  refine xV_iload_n e_X0_waves_7 rfl ?_
  refine xV_bipush (v := (nI 12)) e_X0_waves_8 (by decide) ?_
  refine xV_icmp_geN e_X0_waves_10 (by omega) (by omega) (fun h10 => ?_) (fun h10 => ?_)
  · obtain rfl : k = 12 := by omega
    refine xV_aload_n e_X0_waves_36 rfl ?_
    refine xV_getF e_X0_waves_37 f_X0_44 (by assumption) ?_
    refine xV_iload_n e_X0_waves_40 rfl ?_
    refine xV_iconst (v := (-1)) e_X0_waves_41 (by decide) ?_
    refine xV_ixor e_X0_waves_42 ?_
    refine xV_iand e_X0_waves_43 ?_
    exact xV_ireturn e_X0_waves_44 rfl rfl ⟨rfl, rfl, rfl, rfl⟩
  · refine xV_aload_n e_X0_waves_13 rfl ?_
    refine xV_cV0i e_X0_waves_14 c_X0_120 (by assumption) (C_X0_tooLoose hm) (Nat.le_of_ble_eq_true rfl) ⟨(Nat.le_of_ble_eq_true rfl), (Nat.le_of_ble_eq_true rfl)⟩ (xle_r _) (xle_r _) ?_
    refine xV_istore_n e_X0_waves_17 (Nat.le_of_ble_eq_true rfl) rfl ?_
    refine xV_iload_n e_X0_waves_18 rfl ?_
    refine xV_if_ne e_X0_waves_19 (fun h19 => ?_) (fun h19 => ?_)
    · refine xV_aload_n e_X0_waves_25 rfl ?_
      refine xV_iload_n e_X0_waves_26 rfl ?_
      refine xV_cV1v e_X0_waves_27 c_X0_123 (by assumption) (C_X0_fell hm hmo hm4) (Nat.le_of_ble_eq_true rfl) ⟨(Nat.le_of_ble_eq_true rfl), (Nat.le_of_ble_eq_true rfl)⟩ (xle_r _) (xle_r _) ?_
      refine xV_iincN e_X0_waves_30 rfl rfl ?_
      refine xV_goto e_X0_waves_33 ?_
      rw [wv_s (S := (f, w1, w2, w3, w4, w5)) (by omega) h19]
      refine xV_sub (xl' := [some (.ref h), some (.int bf), some (.int (nI (k + 1))), none]) ⟨rfl, rfl, rfl, trivial⟩ ?_
      exact ih (by omega) none _ _ _ _ _ _ (show (gFell mo (f, w1, w2, w3, w4, w5) (gDue (f, w1, w2, w3, w4, w5))).1 6 = nI mo from hmo)
    · refine xV_goto e_X0_waves_22 ?_
      refine xV_aload_n e_X0_waves_36 rfl ?_
      refine xV_getF e_X0_waves_37 f_X0_44 (by assumption) ?_
      refine xV_iload_n e_X0_waves_40 rfl ?_
      refine xV_iconst (v := (-1)) e_X0_waves_41 (by decide) ?_
      refine xV_ixor e_X0_waves_42 ?_
      refine xV_iand e_X0_waves_43 ?_
      exact xV_ireturn e_X0_waves_44 rfl rfl ⟨by rw [wv_z (S := (f, w1, w2, w3, w4, w5)) h19], rfl, rfl, by rw [wv_z (S := (f, w1, w2, w3, w4, w5)) h19]⟩
set_option maxHeartbeats 4000000 in
set_option maxRecDepth 100000 in
theorem C_X0_waves {f w1 w2 w3 w4 w5 : Nat → Int32} {h : Nat} (hm : MinS G T R h) {mo : Nat} (hmo : f 6 = nI mo) (hm4 : mo ≤ 4) : xCon G Y_X0_waves [.ref h] T R L (pm I h (f, w1, w2, w3, w4, w5)) (xD (some (.int ((wv mo 12 (f, w1, w2, w3, w4, w5)).1 9 &&& (f 9 ^^^ (-1))))) T R L (pm I h (wv mo 12 (f, w1, w2, w3, w4, w5)))) := by
  obtain ⟨m0, r0, r1, r2, r3, r4, s1, s2, s3, s4, s5⟩ := id hm
  refine xCon.mk (xl := [some (.ref h), none, none, none]) (by decide +kernel) (xle_r _) rfl (Nat.le_of_ble_eq_true rfl) rfl ?_
  refine xV_aload_n e_X0_waves_0 rfl ?_
  refine xV_getF e_X0_waves_1 f_X0_44 (by assumption) ?_
  refine xV_istore_n e_X0_waves_4 (Nat.le_of_ble_eq_true rfl) rfl ?_
  refine xV_iconst (v := (nI 0)) e_X0_waves_5 (by decide) ?_
  refine xV_istore_n e_X0_waves_6 (Nat.le_of_ble_eq_true rfl) rfl ?_
  exact P_X0_waves_7 hm hm4 0 (Nat.zero_le _) none _ _ _ _ _ _ hmo
set_option maxHeartbeats 4000000 in
set_option maxRecDepth 100000 in
theorem C_X0_prayer {f w1 w2 w3 w4 w5 : Nat → Int32} {h : Nat} (hm : MinS G T R h) {mo : Nat} (hmo : f 6 = nI mo) (hm4 : mo ≤ 4) {mi : Nat} (hw : WP w5 mo) (hmi : mi < mo) : xCon G Y_X0_prayer [.ref h, .int (nI mi)] T R L (pm I h (f, w1, w2, w3, w4, w5)) (xD (some (.int (vPr mo (f, w1, w2, w3, w4, w5) mi))) T R L (pm I h (gPr mo (f, w1, w2, w3, w4, w5) mi))) := by
  obtain ⟨m0, r0, r1, r2, r3, r4, s1, s2, s3, s4, s5⟩ := id hm
  refine xCon.mk (xl := [some (.ref h), some (.int (nI mi))]) (by decide +kernel) (xle_r _) rfl (Nat.le_of_ble_eq_true rfl) rfl ?_
  refine xV_aload_n e_X0_prayer_0 rfl ?_
  refine xV_iload_n e_X0_prayer_1 rfl ?_
  refine xV_cV1v e_X0_prayer_2 c_X0_89 (by assumption) (C_X0_loosenBy hm hmo hm4 hw hmi) (Nat.le_of_ble_eq_true rfl) ⟨(Nat.le_of_ble_eq_true rfl), (Nat.le_of_ble_eq_true rfl)⟩ (xle_r _) (xle_r _) ?_
  refine xV_aload_n e_X0_prayer_5 rfl ?_
  refine xV_cV0i e_X0_prayer_6 c_X0_92 (by assumption) (C_X0_waves hm hmo hm4) (Nat.le_of_ble_eq_true rfl) ⟨(Nat.le_of_ble_eq_true rfl), (Nat.le_of_ble_eq_true rfl)⟩ (xle_r _) (xle_r _) ?_
  exact xV_ireturn e_X0_prayer_9 rfl rfl ⟨rfl, rfl, rfl, rfl⟩
theorem bLiv_lt {f : Nat → Int32} {n mo : Nat} (hmo : f 6 = nI mo) (hn : n < 2 ^ 31) (hm : mo < 2 ^ 31) (h : bLiv f (nI n) = true) : n < mo := by
  simp only [bLiv, bMonk, Bool.and_eq_true, decide_eq_true_eq] at h
  rw [hmo] at h
  exact (nI_ltI hn hm).mp h.1.2
set_option maxHeartbeats 4000000 in
set_option maxRecDepth 100000 in
theorem P_X0_prayAll_2 {f w1 w2 w3 w4 w5 : Nat → Int32} {h : Nat} (hm : MinS G T R h) {mo : Nat} (hmo : f 6 = nI mo) (hm4 : mo ≤ 4) (hw : WP w5 mo) {set : Int32} : ∀ k, k ≤ 4 → xV G Y_X0_prayAll T (xD (none) T R L (pm I h (gPa mo set (f, w1, w2, w3, w4, w5) 4))) 2 [some (.ref h), some (.int set), some (.int (nI k))] [] T R L (pm I h (gPa mo set (f, w1, w2, w3, w4, w5) k)) := by
  obtain ⟨m0, r0, r1, r2, r3, r4, s1, s2, s3, s4, s5⟩ := id hm
  refine xloop 4 (fun k hk ih => ?_)
  refine xV_iload_n e_X0_prayAll_2 rfl ?_
  refine xV_iconst (v := (nI 4)) e_X0_prayAll_3 (by decide) ?_
  refine xV_icmp_geN e_X0_prayAll_4 (by omega) (by omega) (fun h4 => ?_) (fun h4 => ?_)
  · obtain rfl : k = 4 := by omega
    exact xV_return e_X0_prayAll_35 rfl rfl ⟨rfl, rfl, rfl, rfl⟩
  · refine xV_iload_n e_X0_prayAll_7 rfl ?_
    refine xV_iload_n e_X0_prayAll_8 rfl ?_
    refine xV_cS2i e_X0_prayAll_9 c_X0_59 (C_X2_has) (Nat.le_of_ble_eq_true rfl) ⟨(Nat.le_of_ble_eq_true rfl), (Nat.le_of_ble_eq_true rfl)⟩ (xle_r _) (xle_r _) ?_
    refine xV_if_eqB e_X0_prayAll_12 (fun h12 => ?_) (fun h12 => ?_)
    · refine xV_iincN e_X0_prayAll_29 rfl rfl ?_
      refine xV_goto e_X0_prayAll_32 ?_
      have q := ih (by omega)
      rw [gPa_f (S := (f, w1, w2, w3, w4, w5)) (Or.inl h12)] at q
      exact q
    · refine xV_aload_n e_X0_prayAll_15 rfl ?_
      refine xV_iload_n e_X0_prayAll_16 rfl ?_
      refine xV_cV1i e_X0_prayAll_17 c_X0_95 (by assumption) (C_X0_isLiving hm) (Nat.le_of_ble_eq_true rfl) ⟨(Nat.le_of_ble_eq_true rfl), (Nat.le_of_ble_eq_true rfl)⟩ (xle_r _) (xle_r _) ?_
      refine xV_if_eqB e_X0_prayAll_20 (fun h20 => ?_) (fun h20 => ?_)
      · refine xV_iincN e_X0_prayAll_29 rfl rfl ?_
        refine xV_goto e_X0_prayAll_32 ?_
        have q := ih (by omega)
        rw [gPa_f (S := (f, w1, w2, w3, w4, w5)) (Or.inr h20)] at q
        exact q
      · refine xV_aload_n e_X0_prayAll_23 rfl ?_
        refine xV_iload_n e_X0_prayAll_24 rfl ?_
        have hk2 := keep_pa mo set (f, w1, w2, w3, w4, w5) k
        have hlt := bLiv_lt (hk2.2.1.trans hmo) (by omega) (by omega) h20
        refine xV_cV1i e_X0_prayAll_25 c_X0_98 (by assumption) (C_X0_prayer (f := (gPa mo set (f, w1, w2, w3, w4, w5) k).1) (w1 := (gPa mo set (f, w1, w2, w3, w4, w5) k).2.1) (w2 := (gPa mo set (f, w1, w2, w3, w4, w5) k).2.2.1) (w3 := (gPa mo set (f, w1, w2, w3, w4, w5) k).2.2.2.1) (w4 := (gPa mo set (f, w1, w2, w3, w4, w5) k).2.2.2.2.1) (w5 := (gPa mo set (f, w1, w2, w3, w4, w5) k).2.2.2.2.2) hm (hk2.2.1.trans hmo) hm4 (by rw [hk2.2.2.2]; exact hw) hlt) (Nat.le_of_ble_eq_true rfl) ⟨(Nat.le_of_ble_eq_true rfl), (Nat.le_of_ble_eq_true rfl)⟩ (xle_r _) (xle_r _) ?_
        refine xV_pop e_X0_prayAll_28 rfl ?_
        refine xV_iincN e_X0_prayAll_29 rfl rfl ?_
        refine xV_goto e_X0_prayAll_32 ?_
        have q := ih (by omega)
        rw [gPa_t (S := (f, w1, w2, w3, w4, w5)) h12 h20] at q
        exact q
set_option maxHeartbeats 4000000 in
set_option maxRecDepth 100000 in
theorem C_X0_prayAll {f w1 w2 w3 w4 w5 : Nat → Int32} {h : Nat} (hm : MinS G T R h) {mo : Nat} (hmo : f 6 = nI mo) (hm4 : mo ≤ 4) (hw : WP w5 mo) {set : Int32} : xCon G Y_X0_prayAll [.ref h, .int set] T R L (pm I h (f, w1, w2, w3, w4, w5)) (xD (none) T R L (pm I h (gPa mo set (f, w1, w2, w3, w4, w5) 4))) := by
  obtain ⟨m0, r0, r1, r2, r3, r4, s1, s2, s3, s4, s5⟩ := id hm
  refine xCon.mk (xl := [some (.ref h), some (.int set), none]) (by decide +kernel) (xle_r _) rfl (Nat.le_of_ble_eq_true rfl) rfl ?_
  refine xV_iconst (v := (nI 0)) e_X0_prayAll_0 (by decide) ?_
  refine xV_istore_n e_X0_prayAll_1 (Nat.le_of_ble_eq_true rfl) rfl ?_
  exact P_X0_prayAll_2 hm hmo hm4 hw 0 (Nat.zero_le _)
set_option maxHeartbeats 4000000 in
set_option maxRecDepth 100000 in
theorem P_X0_endDay_12 {f w1 w2 w3 w4 w5 : Nat → Int32} {h : Nat} (hm : MinS G T R h) {mo : Nat} (hmo : f 6 = nI mo) (hm4 : mo ≤ 4) : ∀ k, k ≤ 12 → xV G Y_X0_endDay T (xD (some (.int (vEdv mo (f, w1, w2, w3, w4, w5)))) T R L (pm I h (gEd mo (f, w1, w2, w3, w4, w5)))) 12 [some (.ref h), some (.int (nI k))] [] T R L (pm I h (upd f 11 (f 11 + nI 1), w1, vEd f w4 w2 k, w3, zr w4 k, w5)) := by
  obtain ⟨m0, r0, r1, r2, r3, r4, s1, s2, s3, s4, s5⟩ := id hm
  refine xloop 12 (fun k hk ih => ?_)
  refine xV_iload_n e_X0_endDay_12 rfl ?_
  refine xV_bipush (v := (nI 12)) e_X0_endDay_13 (by decide) ?_
  refine xV_icmp_geN e_X0_endDay_15 (by omega) (by omega) (fun h15 => ?_) (fun h15 => ?_)
  · obtain rfl : k = 12 := by omega
    refine xV_aload_n e_X0_endDay_48 rfl ?_
    refine xV_cV0i e_X0_endDay_49 c_X0_92 (by assumption) (C_X0_waves (f := upd f 11 (f 11 + nI 1)) hm hmo hm4) (Nat.le_of_ble_eq_true rfl) ⟨(Nat.le_of_ble_eq_true rfl), (Nat.le_of_ble_eq_true rfl)⟩ (xle_r _) (xle_r _) ?_
    exact xV_ireturn e_X0_endDay_52 rfl rfl ⟨rfl, rfl, rfl, rfl⟩
  · refine xV_aload_n e_X0_endDay_18 rfl ?_
    refine xV_iconst (v := (nI 1)) e_X0_endDay_19 (by decide) ?_
    refine xV_iload_n e_X0_endDay_20 rfl ?_
    refine xV_ishl e_X0_endDay_21 ?_
    refine xV_aload_n e_X0_endDay_22 rfl ?_
    refine xV_getR e_X0_endDay_23 f_X0_21 (by assumption) (by assumption) ?_
    refine xV_iload_n e_X0_endDay_26 rfl ?_
    refine xV_cS2i e_X0_endDay_27 c_X0_67 (C_X2_atN (xRow.p4 s4) (by omega) (by omega)) (Nat.le_of_ble_eq_true rfl) ⟨(Nat.le_of_ble_eq_true rfl), (Nat.le_of_ble_eq_true rfl)⟩ (xle_r _) (xle_r _) ?_
    refine xV_cV2v e_X0_endDay_30 c_X0_101 (by assumption) (C_X0_loosen hm) (Nat.le_of_ble_eq_true rfl) ⟨(Nat.le_of_ble_eq_true rfl), (Nat.le_of_ble_eq_true rfl)⟩ (xle_r _) (xle_r _) ?_
    refine xV_aload_n e_X0_endDay_33 rfl ?_
    refine xV_getR e_X0_endDay_34 f_X0_21 (by assumption) (by assumption) ?_
    refine xV_iload_n e_X0_endDay_37 rfl ?_
    refine xV_iconst (v := (nI 0)) e_X0_endDay_38 (by decide) ?_
    refine xV_cS3v e_X0_endDay_39 c_X0_71 (C_X2_put4 s4 (by omega) (by omega)) (Nat.le_of_ble_eq_true rfl) ⟨(Nat.le_of_ble_eq_true rfl), (Nat.le_of_ble_eq_true rfl)⟩ (xle_r _) (xle_r _) ?_
    refine xV_iincN e_X0_endDay_42 rfl rfl ?_
    refine xV_goto e_X0_endDay_45 ?_
    have q := ih (by omega)
    rw [← zr_s w4 k, vEd] at q
    rw [zr_at]
    exact q
set_option maxHeartbeats 4000000 in
set_option maxRecDepth 100000 in
theorem C_X0_endDay {f w1 w2 w3 w4 w5 : Nat → Int32} {h : Nat} (hm : MinS G T R h) {mo : Nat} (hmo : f 6 = nI mo) (hm4 : mo ≤ 4) : xCon G Y_X0_endDay [.ref h] T R L (pm I h (f, w1, w2, w3, w4, w5)) (xD (some (.int (vEdv mo (f, w1, w2, w3, w4, w5)))) T R L (pm I h (gEd mo (f, w1, w2, w3, w4, w5)))) := by
  obtain ⟨m0, r0, r1, r2, r3, r4, s1, s2, s3, s4, s5⟩ := id hm
  refine xCon.mk (xl := [some (.ref h), none]) (by decide +kernel) (xle_r _) rfl (Nat.le_of_ble_eq_true rfl) rfl ?_
  refine xV_aload_n e_X0_endDay_0 rfl ?_
  refine xV_dup e_X0_endDay_1 rfl ?_
  refine xV_getF e_X0_endDay_2 f_X0_50 (by assumption) ?_
  refine xV_iconst (v := (nI 1)) e_X0_endDay_5 (by decide) ?_
  refine xV_iadd e_X0_endDay_6 ?_
  refine xV_putF e_X0_endDay_7 p_X0_50 (by assumption) ?_
  refine xV_iconst (v := (nI 0)) e_X0_endDay_10 (by decide) ?_
  refine xV_istore_n e_X0_endDay_11 (Nat.le_of_ble_eq_true rfl) rfl ?_
  have q := P_X0_endDay_12 (L := L) (I := I) (f := f) (w1 := w1) (w2 := w2) (w3 := w3) (w4 := w4) (w5 := w5) hm hmo hm4 0 (Nat.zero_le _)
  rw [zr_0, vEd] at q
  exact q
end XMINB
