/-! THE MODEL: its page -/
section XMB
variable {G : xG} {T : xT} {R : xR} {L : xL} {I : xI}
section RUL
variable {Y : xY} {Tb : xT} {o : xO} {pc pc' idx : Nat} {xl : List (Option Value)} {st : List Value}
theorem va_own {α : Type} {f : Nat → α} {a : Nat} {x : α} (h : f a = x) : va_up f a x = f := by
  funext j
  by_cases e : j = a
  · subst e; rw [va_up_s, h]
  · rw [va_up_n e]
theorem xRow.vp {a n : Nat} {P : Nat → Int32} (hs : xSh G T a = (4, n)) : xRow G T (va_up I a P) a n P := Or.inl ⟨hs, va_up_s.symm⟩
theorem xRow.vo {a c n : Nat} {P : Nat → Int32} (hc : c ≠ a) (hs : xSh G T c = (4, n)) : xRow G T (va_up I a P) c n (I c) := Or.inl ⟨hs, (va_up_n hc).symm⟩
theorem xst_vp {a k : Nat} {v : Int32} {P : Nat → Int32} : xst (va_up I a P) a k v = va_up I a (upd P k v) := by unfold xst; rw [va_up_s, va_up_up]
theorem xV_iastP {a n k : Nat} {x : Int32} {P : Nat → Int32} (hd : decode Y.2.1 pc = .ok (.iastore, 1) ∧ pc + 1 = pc') (hs : xSh G T a = (4, n)) (hk : k < n) (hn : n < 2 ^ 31) (kk : xV G Y Tb o pc' xl st T R L (va_up I a (upd P k x))) : xV G Y Tb o pc xl (.int x :: .int (nI k) :: .ref a :: st) T R L (va_up I a P) :=
  xV_iastN hd hs hk hn (by rw [xst_vp]; exact kk)
theorem xV_getO {m a k0 : Nat} {P : Nat → Int32} (hd : decode Y.2.1 pc = .ok (.getfield idx, 3) ∧ pc + 3 = pc') (hf : xFL Y.1.cls idx 3 k0 0) (hs : (xSh G T m).1 = 3) (hne : m ≠ a) (k : xV G Y Tb o pc' xl (.int (I m k0) :: st) T R L (va_up I a P)) : xV G Y Tb o pc xl (.ref m :: st) T R L (va_up I a P) :=
  xV_getI hd hf hs (by rw [va_up_n hne]; exact k)
theorem xV_getMO {m a k0 mo : Nat} {P : Nat → Int32} (hd : decode Y.2.1 pc = .ok (.getfield idx, 3) ∧ pc + 3 = pc') (hf : xFL Y.1.cls idx 3 k0 0) (hs : (xSh G T m).1 = 3) (hne : m ≠ a) (hmo : I m k0 = nI mo) (k : xV G Y Tb o pc' xl (.int (nI mo) :: st) T R L (va_up I a P)) : xV G Y Tb o pc xl (.ref m :: st) T R L (va_up I a P) :=
  xV_getO hd hf hs hne (by rw [hmo]; exact k)
theorem xV_getMI {m k0 mo : Nat} (hd : decode Y.2.1 pc = .ok (.getfield idx, 3) ∧ pc + 3 = pc') (hf : xFL Y.1.cls idx 3 k0 0) (hs : (xSh G T m).1 = 3) (hmo : I m k0 = nI mo) (k : xV G Y Tb o pc' xl (.int (nI mo) :: st) T R L I) : xV G Y Tb o pc xl (.ref m :: st) T R L I :=
  xV_getI hd hf hs (by rw [hmo]; exact k)
end RUL
def aN (a b : Int32) : Bool := decide (((a - a / nI 4 * nI 4) - (b - b / nI 4 * nI 4)) * ((a - a / nI 4 * nI 4) - (b - b / nI 4 * nI 4)) + (a / nI 4 - b / nI 4) * (a / nI 4 - b / nI 4) = nI 1)
theorem aN_near : ∀ c, c < 12 → ∀ d, d < 12 → aN (nI c) (nI d) = hs (xnear c) (nI d) := by decide +kernel
/-- loosen, on a page -/
def pLo (P : Nat → Int32) (c : Nat) (b : Int32) : Nat → Int32 := if hs (P 48) (nI c) = true then P else upd P (12 + c) (if P (12 + c) + b ≤ nI 99 then P (12 + c) + b else nI 99)
set_option maxHeartbeats 4000000 in
set_option maxRecDepth 100000 in
theorem C_X3_areNext {a b : Int32} : xCon G Y_X3_areNext [.int a, .int b] T R L I (xD (some (.int (xb (aN a b)))) T R L I) := by
  refine xCon.mk (xl := [some (.int a), some (.int b), none, none]) (by decide +kernel) (xle_r _) rfl (Nat.le_of_ble_eq_true rfl) rfl ?_
  refine xV_iload_n e_X3_areNext_0 rfl ?_
  refine xV_iconst (v := (nI 4)) e_X3_areNext_1 (by decide) ?_
  refine xV_irem e_X3_areNext_2 (by first | assumption | decide) ?_
  refine xV_iload_n e_X3_areNext_3 rfl ?_
  refine xV_iconst (v := (nI 4)) e_X3_areNext_4 (by decide) ?_
  refine xV_irem e_X3_areNext_5 (by first | assumption | decide) ?_
  refine xV_isub e_X3_areNext_6 ?_
  refine xV_istore_n e_X3_areNext_7 (Nat.le_of_ble_eq_true rfl) rfl ?_
  refine xV_iload_n e_X3_areNext_8 rfl ?_
  refine xV_iconst (v := (nI 4)) e_X3_areNext_9 (by decide) ?_
  refine xV_idiv e_X3_areNext_10 (by first | assumption | decide) ?_
  refine xV_iload_n e_X3_areNext_11 rfl ?_
  refine xV_iconst (v := (nI 4)) e_X3_areNext_12 (by decide) ?_
  refine xV_idiv e_X3_areNext_13 (by first | assumption | decide) ?_
  refine xV_isub e_X3_areNext_14 ?_
  refine xV_istore_n e_X3_areNext_15 (Nat.le_of_ble_eq_true rfl) rfl ?_
  refine xV_iload_n e_X3_areNext_16 rfl ?_
  refine xV_iload_n e_X3_areNext_17 rfl ?_
  refine xV_imul e_X3_areNext_18 ?_
  refine xV_iload_n e_X3_areNext_19 rfl ?_
  refine xV_iload_n e_X3_areNext_20 rfl ?_
  refine xV_imul e_X3_areNext_21 ?_
  refine xV_iadd e_X3_areNext_22 ?_
  refine xV_iconst (v := (nI 1)) e_X3_areNext_23 (by decide) ?_
  refine xV_icmp_ne e_X3_areNext_24 (fun h24 => ?_) (fun h24 => ?_)
  · refine xV_iconst (v := (nI 0)) e_X3_areNext_31 (by decide) ?_
    exact xV_zreturn e_X3_areNext_32 rfl rfl rfl ⟨xret_f (decide_eq_false h24), rfl, rfl, rfl⟩
  · refine xV_iconst (v := (nI 1)) e_X3_areNext_27 (by decide) ?_
    refine xV_goto e_X3_areNext_28 ?_
    exact xV_zreturn e_X3_areNext_32 rfl rfl rfl ⟨xret_t (decide_eq_true h24), rfl, rfl, rfl⟩
set_option maxHeartbeats 4000000 in
set_option maxRecDepth 100000 in
theorem C_X3_loosen {a c : Nat} {P : Nat → Int32} {b : Int32} (hs1 : xSh G T a = (4, 58)) (hc : c < 12) : xCon G Y_X3_loosen [.ref a, .int (nI c), .int b] T R L (va_up I a P) (xD none T R L (va_up I a (pLo P c b))) := by
  refine xCon.mk (xl := [some (.ref a), some (.int (nI c)), some (.int b)]) (by decide +kernel) (xle_r _) rfl (Nat.le_of_ble_eq_true rfl) rfl ?_
  refine xV_aload_n e_X3_loosen_0 rfl ?_
  refine xV_bipush (v := (nI 48)) e_X3_loosen_1 (by decide) ?_
  refine xV_ialdN e_X3_loosen_3 (by first | exact xRow.vp (by assumption) | exact xRow.vo (by omega) (by assumption)) (by omega) (by omega) ?_
  refine xV_iload_n e_X3_loosen_4 rfl ?_
  refine xV_cS2i e_X3_loosen_5 c_X3_70 (C_X3_hasH) (Nat.le_of_ble_eq_true rfl) ⟨(Nat.le_of_ble_eq_true rfl), (Nat.le_of_ble_eq_true rfl)⟩ (xle_r _) (xle_r _) ?_
  refine xV_if_neB e_X3_loosen_8 (fun h8 => ?_) (fun h8 => ?_)
  · exact xV_return e_X3_loosen_43 rfl rfl ⟨rfl, rfl, rfl, by rw [pLo, if_pos h8]⟩
  · refine xV_aload_n e_X3_loosen_11 rfl ?_
    refine xV_bipush (v := (nI 12)) e_X3_loosen_12 (by decide) ?_
    refine xV_iload_n e_X3_loosen_14 rfl ?_
    refine xV_iaddN e_X3_loosen_15 ?_
    refine xV_aload_n e_X3_loosen_16 rfl ?_
    refine xV_bipush (v := (nI 12)) e_X3_loosen_17 (by decide) ?_
    refine xV_iload_n e_X3_loosen_19 rfl ?_
    refine xV_iaddN e_X3_loosen_20 ?_
    refine xV_ialdN e_X3_loosen_21 (by first | exact xRow.vp (by assumption) | exact xRow.vo (by omega) (by assumption)) (by omega) (by omega) ?_
    refine xV_iload_n e_X3_loosen_22 rfl ?_
    refine xV_iadd e_X3_loosen_23 ?_
    refine xV_bipush (v := (nI 99)) e_X3_loosen_24 (by decide) ?_
    refine xV_icmp_le e_X3_loosen_26 (fun h26 => ?_) (fun h26 => ?_)
    · refine xV_aload_n e_X3_loosen_34 rfl ?_
      refine xV_bipush (v := (nI 12)) e_X3_loosen_35 (by decide) ?_
      refine xV_iload_n e_X3_loosen_37 rfl ?_
      refine xV_iaddN e_X3_loosen_38 ?_
      refine xV_ialdN e_X3_loosen_39 (by first | exact xRow.vp (by assumption) | exact xRow.vo (by omega) (by assumption)) (by omega) (by omega) ?_
      refine xV_iload_n e_X3_loosen_40 rfl ?_
      refine xV_iadd e_X3_loosen_41 ?_
      refine xV_iastP e_X3_loosen_42 (by assumption) (by omega) (by omega) ?_
      exact xV_return e_X3_loosen_43 rfl rfl ⟨rfl, rfl, rfl, by rw [pLo, if_neg (by rw [h8]; decide), if_pos h26]⟩
    · refine xV_bipush (v := (nI 99)) e_X3_loosen_29 (by decide) ?_
      refine xV_goto e_X3_loosen_31 ?_
      refine xV_iastP e_X3_loosen_42 (by assumption) (by omega) (by omega) ?_
      exact xV_return e_X3_loosen_43 rfl rfl ⟨rfl, rfl, rfl, by rw [pLo, if_neg (by rw [h8]; decide), if_neg h26]⟩
def pOn (P : Nat → Int32) (c : Int32) : Nat → Int32
  | 0 => nI 0
  | k + 1 => pOn P c k ||| (if P (49 + k) = c then nI 1 <<< (nI k &&& 31) else nI 0)
set_option maxHeartbeats 4000000 in
set_option maxRecDepth 100000 in
theorem P_X3_thereOf_4 {m mo : Nat} (hX : XM G T R m) (hmo : I m 5 = nI mo) (hm4 : mo ≤ 4) {c : Int32} : ∀ k, k ≤ mo → xV G Y_X3_thereOf T (xD (some (.int (pOn (I (m + 3)) c mo))) T R L I) 4 [some (.ref m), some (.int c), some (.int (pOn (I (m + 3)) c k)), some (.int (nI k))] [] T R L I := by
  obtain ⟨m0, rt, st, rs, ss, rp, sp, rrp, srp, rrs, srs, rb, sb, rk, sk, ri, si, rc, sc, rv, sv, rr, sr⟩ := id hX
  refine xloop mo (fun k hk0 ih => ?_)
  refine xV_iload_n e_X3_thereOf_4 rfl ?_
  refine xV_aload_n e_X3_thereOf_5 rfl ?_
  refine xV_getMI e_X3_thereOf_6 f_X3_51 m0 hmo ?_
  refine xV_icmp_geN e_X3_thereOf_9 (by omega) (by omega) (fun h9 => ?_) (fun h9 => ?_)
  · obtain rfl : k = mo := by omega
    refine xV_iload_n e_X3_thereOf_41 rfl ?_
    exact xV_ireturn e_X3_thereOf_42 rfl rfl ⟨rfl, rfl, rfl, rfl⟩
  · refine xV_iload_n e_X3_thereOf_12 rfl ?_
    refine xV_aload_n e_X3_thereOf_13 rfl ?_
    refine xV_getR e_X3_thereOf_14 f_X3_20 (by assumption) (by assumption) ?_
    refine xV_bipush (v := (nI 49)) e_X3_thereOf_17 (by decide) ?_
    refine xV_iload_n e_X3_thereOf_19 rfl ?_
    refine xV_iaddN e_X3_thereOf_20 ?_
    refine xV_ialdN e_X3_thereOf_21 (by exact xRow.of (by assumption)) (by omega) (by omega) ?_
    refine xV_iload_n e_X3_thereOf_22 rfl ?_
    refine xV_icmp_ne e_X3_thereOf_23 (fun h23 => ?_) (fun h23 => ?_)
    · refine xV_iconst (v := (nI 0)) e_X3_thereOf_32 (by decide) ?_
      refine xV_ior e_X3_thereOf_33 ?_
      refine xV_istore_n e_X3_thereOf_34 (Nat.le_of_ble_eq_true rfl) rfl ?_
      refine xV_iincN e_X3_thereOf_35 rfl rfl ?_
      refine xV_goto e_X3_thereOf_38 ?_
      have q := ih (by omega)
      rw [show pOn (I (m + 3)) c (k + 1) = pOn (I (m + 3)) c k ||| nI 0 from by rw [pOn, if_neg h23]] at q
      exact q
    · refine xV_iconst (v := (nI 1)) e_X3_thereOf_26 (by decide) ?_
      refine xV_iload_n e_X3_thereOf_27 rfl ?_
      refine xV_ishl e_X3_thereOf_28 ?_
      refine xV_goto e_X3_thereOf_29 ?_
      refine xV_ior e_X3_thereOf_33 ?_
      refine xV_istore_n e_X3_thereOf_34 (Nat.le_of_ble_eq_true rfl) rfl ?_
      refine xV_iincN e_X3_thereOf_35 rfl rfl ?_
      refine xV_goto e_X3_thereOf_38 ?_
      have q := ih (by omega)
      rw [show pOn (I (m + 3)) c (k + 1) = pOn (I (m + 3)) c k ||| (nI 1 <<< (nI k &&& 31)) from by rw [pOn, if_pos h23]] at q
      exact q
set_option maxHeartbeats 4000000 in
set_option maxRecDepth 100000 in
theorem C_X3_thereOf {m mo : Nat} (hX : XM G T R m) (hmo : I m 5 = nI mo) (hm4 : mo ≤ 4) {c : Int32} : xCon G Y_X3_thereOf [.ref m, .int c] T R L I (xD (some (.int (pOn (I (m + 3)) c mo))) T R L I) := by
  refine xCon.mk (xl := [some (.ref m), some (.int c), none, none]) (by decide +kernel) (xle_r _) rfl (Nat.le_of_ble_eq_true rfl) rfl ?_
  refine xV_iconst (v := (nI 0)) e_X3_thereOf_0 (by decide) ?_
  refine xV_istore_n e_X3_thereOf_1 (Nat.le_of_ble_eq_true rfl) rfl ?_
  refine xV_iconst (v := (nI 0)) e_X3_thereOf_2 (by decide) ?_
  refine xV_istore_n e_X3_thereOf_3 (Nat.le_of_ble_eq_true rfl) rfl ?_
  exact P_X3_thereOf_4 hX hmo hm4 0 (Nat.zero_le _)
def pTm (P : Nat → Int32) (se : Nat → Int32) (mi : Nat) : Nat → Int32
  | 0 => nI 1
  | k + 1 => if hs (P 53) (nI k) = false ∧ ¬ se k = se mi ∧ (P (49 + k) = P (49 + mi) ∨ aN (P (49 + k)) (P (49 + mi)) = true) then nI 2 else pTm P se mi k
theorem pTm_t {P se : Nat → Int32} {mi k : Nat} (h1 : hs (P 53) (nI k) = false) (h2 : ¬ se k = se mi) (h3 : P (49 + k) = P (49 + mi) ∨ aN (P (49 + k)) (P (49 + mi)) = true) : pTm P se mi (k + 1) = nI 2 := by rw [pTm, if_pos ⟨h1, h2, h3⟩]
theorem pTm_f {P se : Nat → Int32} {mi k : Nat} (h : ¬ (hs (P 53) (nI k) = false ∧ ¬ se k = se mi ∧ (P (49 + k) = P (49 + mi) ∨ aN (P (49 + k)) (P (49 + mi)) = true))) : pTm P se mi (k + 1) = pTm P se mi k := by rw [pTm, if_neg h]
set_option maxHeartbeats 4000000 in
set_option maxRecDepth 100000 in
theorem P_X3_timesOf_5 {m mo : Nat} (hX : XM G T R m) (hmo : I m 5 = nI mo) (hm4 : mo ≤ 4) {a : Nat} {P : Nat → Int32} (hsa : xSh G T a = (4, 58)) (ha : m ≠ a ∧ m + 2 ≠ a) {mi : Nat} (hmi : mi < mo) : ∀ k, k ≤ mo → ∀ j : Option Value, xV G Y_X3_timesOf T (xD (some (.int (pTm P (I (m + 2)) mi mo))) T R L (va_up I a P)) 5 [some (.ref m), some (.ref a), some (.int (nI mi)), some (.int (pTm P (I (m + 2)) mi k)), some (.int (nI k)), j] [] T R L (va_up I a P) := by
  obtain ⟨m0, rt, st, rs, ss, rp, sp, rrp, srp, rrs, srs, rb, sb, rk, sk, ri, si, rc, sc, rv, sv, rr, sr⟩ := id hX
  refine xloop mo (fun k hk0 ih => ?_)
  intro j
  refine xV_iload e_X3_timesOf_5 rfl ?_
  refine xV_aload_n e_X3_timesOf_7 rfl ?_
  refine xV_getMO e_X3_timesOf_8 f_X3_51 m0 (by omega) hmo ?_
  refine xV_icmp_geN e_X3_timesOf_11 (by omega) (by omega) (fun h11 => ?_) (fun h11 => ?_)
  · obtain rfl : k = mo := by omega
    refine xV_iload_n e_X3_timesOf_101 rfl ?_
    exact xV_ireturn e_X3_timesOf_102 rfl rfl ⟨rfl, rfl, rfl, rfl⟩
  · refine xV_aload_n e_X3_timesOf_14 rfl ?_
    refine xV_bipush (v := (nI 49)) e_X3_timesOf_15 (by decide) ?_
    refine xV_iload e_X3_timesOf_17 rfl ?_
    refine xV_iaddN e_X3_timesOf_19 ?_
    refine xV_ialdN e_X3_timesOf_20 (by first | exact xRow.vp (by assumption) | exact xRow.vo (by omega) (by assumption)) (by omega) (by omega) ?_
    refine xV_aload_n e_X3_timesOf_21 rfl ?_
    refine xV_bipush (v := (nI 49)) e_X3_timesOf_22 (by decide) ?_
    refine xV_iload_n e_X3_timesOf_24 rfl ?_
    refine xV_iaddN e_X3_timesOf_25 ?_
    refine xV_ialdN e_X3_timesOf_26 (by first | exact xRow.vp (by assumption) | exact xRow.vo (by omega) (by assumption)) (by omega) (by omega) ?_
    refine xV_icmp_eq e_X3_timesOf_27 (fun h27 => ?_) (fun h27 => ?_)
    · refine xV_iconst (v := (nI 1)) e_X3_timesOf_49 (by decide) ?_
      refine xV_goto e_X3_timesOf_50 ?_
      refine xV_istore e_X3_timesOf_54 (Nat.le_of_ble_eq_true rfl) rfl ?_
      refine xV_aload_n e_X3_timesOf_56 rfl ?_
      refine xV_bipush (v := (nI 53)) e_X3_timesOf_57 (by decide) ?_
      refine xV_ialdN e_X3_timesOf_59 (by first | exact xRow.vp (by assumption) | exact xRow.vo (by omega) (by assumption)) (by omega) (by omega) ?_
      refine xV_iload e_X3_timesOf_60 rfl ?_
      refine xV_cS2i e_X3_timesOf_62 c_X3_70 (C_X3_hasH) (Nat.le_of_ble_eq_true rfl) ⟨(Nat.le_of_ble_eq_true rfl), (Nat.le_of_ble_eq_true rfl)⟩ (xle_r _) (xle_r _) ?_
      refine xV_if_neB e_X3_timesOf_65 (fun h65 => ?_) (fun h65 => ?_)
      · refine xV_iload_n e_X3_timesOf_93 rfl ?_
        refine xV_istore_n e_X3_timesOf_94 (Nat.le_of_ble_eq_true rfl) rfl ?_
        refine xV_iincN e_X3_timesOf_95 rfl rfl ?_
        refine xV_goto e_X3_timesOf_98 ?_
        refine xV_sub (xl' := [some (.ref m), some (.ref a), some (.int (nI mi)), some (.int (pTm P (I (m + 2)) mi (k + 1))), some (.int (nI (k + 1))), none]) ?_ (ih (by omega) _)
        rw [pTm_f (fun z => by rw [h65] at z; exact absurd z.1 (by decide))]
        exact ⟨rfl, rfl, rfl, rfl, rfl, trivial⟩
      · refine xV_aload_n e_X3_timesOf_68 rfl ?_
        refine xV_getR e_X3_timesOf_69 f_X3_17 (by assumption) (by assumption) ?_
        refine xV_iload e_X3_timesOf_72 rfl ?_
        refine xV_ialdN e_X3_timesOf_74 (by first | exact xRow.vp (by assumption) | exact xRow.vo (by omega) (by assumption)) (by omega) (by omega) ?_
        refine xV_aload_n e_X3_timesOf_75 rfl ?_
        refine xV_getR e_X3_timesOf_76 f_X3_17 (by assumption) (by assumption) ?_
        refine xV_iload_n e_X3_timesOf_79 rfl ?_
        refine xV_ialdN e_X3_timesOf_80 (by first | exact xRow.vp (by assumption) | exact xRow.vo (by omega) (by assumption)) (by omega) (by omega) ?_
        refine xV_icmp_eq e_X3_timesOf_81 (fun h81 => ?_) (fun h81 => ?_)
        · refine xV_iload_n e_X3_timesOf_93 rfl ?_
          refine xV_istore_n e_X3_timesOf_94 (Nat.le_of_ble_eq_true rfl) rfl ?_
          refine xV_iincN e_X3_timesOf_95 rfl rfl ?_
          refine xV_goto e_X3_timesOf_98 ?_
          refine xV_sub (xl' := [some (.ref m), some (.ref a), some (.int (nI mi)), some (.int (pTm P (I (m + 2)) mi (k + 1))), some (.int (nI (k + 1))), none]) ?_ (ih (by omega) _)
          rw [pTm_f (fun z => z.2.1 h81)]
          exact ⟨rfl, rfl, rfl, rfl, rfl, trivial⟩
        · refine xV_iload e_X3_timesOf_84 rfl ?_
          refine xV_if_eq e_X3_timesOf_86 (fun h86 => ?_) (fun h86 => ?_)
          · exact absurd h86 (by decide)
          · refine xV_iconst (v := (nI 2)) e_X3_timesOf_89 (by decide) ?_
            refine xV_goto e_X3_timesOf_90 ?_
            refine xV_istore_n e_X3_timesOf_94 (Nat.le_of_ble_eq_true rfl) rfl ?_
            refine xV_iincN e_X3_timesOf_95 rfl rfl ?_
            refine xV_goto e_X3_timesOf_98 ?_
            refine xV_sub (xl' := [some (.ref m), some (.ref a), some (.int (nI mi)), some (.int (pTm P (I (m + 2)) mi (k + 1))), some (.int (nI (k + 1))), none]) ?_ (ih (by omega) _)
            rw [pTm_t h65 h81 (Or.inl h27)]
            exact ⟨rfl, rfl, rfl, rfl, rfl, trivial⟩
    · refine xV_aload_n e_X3_timesOf_30 rfl ?_
      refine xV_bipush (v := (nI 49)) e_X3_timesOf_31 (by decide) ?_
      refine xV_iload e_X3_timesOf_33 rfl ?_
      refine xV_iaddN e_X3_timesOf_35 ?_
      refine xV_ialdN e_X3_timesOf_36 (by first | exact xRow.vp (by assumption) | exact xRow.vo (by omega) (by assumption)) (by omega) (by omega) ?_
      refine xV_aload_n e_X3_timesOf_37 rfl ?_
      refine xV_bipush (v := (nI 49)) e_X3_timesOf_38 (by decide) ?_
      refine xV_iload_n e_X3_timesOf_40 rfl ?_
      refine xV_iaddN e_X3_timesOf_41 ?_
      refine xV_ialdN e_X3_timesOf_42 (by first | exact xRow.vp (by assumption) | exact xRow.vo (by omega) (by assumption)) (by omega) (by omega) ?_
      refine xV_cS2i e_X3_timesOf_43 c_X3_121 (C_X3_areNext) (Nat.le_of_ble_eq_true rfl) ⟨(Nat.le_of_ble_eq_true rfl), (Nat.le_of_ble_eq_true rfl)⟩ (xle_r _) (xle_r _) ?_
      refine xV_if_eqB e_X3_timesOf_46 (fun h46 => ?_) (fun h46 => ?_)
      · refine xV_iconst (v := (nI 0)) e_X3_timesOf_53 (by decide) ?_
        refine xV_istore e_X3_timesOf_54 (Nat.le_of_ble_eq_true rfl) rfl ?_
        refine xV_aload_n e_X3_timesOf_56 rfl ?_
        refine xV_bipush (v := (nI 53)) e_X3_timesOf_57 (by decide) ?_
        refine xV_ialdN e_X3_timesOf_59 (by first | exact xRow.vp (by assumption) | exact xRow.vo (by omega) (by assumption)) (by omega) (by omega) ?_
        refine xV_iload e_X3_timesOf_60 rfl ?_
        refine xV_cS2i e_X3_timesOf_62 c_X3_70 (C_X3_hasH) (Nat.le_of_ble_eq_true rfl) ⟨(Nat.le_of_ble_eq_true rfl), (Nat.le_of_ble_eq_true rfl)⟩ (xle_r _) (xle_r _) ?_
        refine xV_if_neB e_X3_timesOf_65 (fun h65 => ?_) (fun h65 => ?_)
        · refine xV_iload_n e_X3_timesOf_93 rfl ?_
          refine xV_istore_n e_X3_timesOf_94 (Nat.le_of_ble_eq_true rfl) rfl ?_
          refine xV_iincN e_X3_timesOf_95 rfl rfl ?_
          refine xV_goto e_X3_timesOf_98 ?_
          refine xV_sub (xl' := [some (.ref m), some (.ref a), some (.int (nI mi)), some (.int (pTm P (I (m + 2)) mi (k + 1))), some (.int (nI (k + 1))), none]) ?_ (ih (by omega) _)
          rw [pTm_f (fun z => by rw [h65] at z; exact absurd z.1 (by decide))]
          exact ⟨rfl, rfl, rfl, rfl, rfl, trivial⟩
        · refine xV_aload_n e_X3_timesOf_68 rfl ?_
          refine xV_getR e_X3_timesOf_69 f_X3_17 (by assumption) (by assumption) ?_
          refine xV_iload e_X3_timesOf_72 rfl ?_
          refine xV_ialdN e_X3_timesOf_74 (by first | exact xRow.vp (by assumption) | exact xRow.vo (by omega) (by assumption)) (by omega) (by omega) ?_
          refine xV_aload_n e_X3_timesOf_75 rfl ?_
          refine xV_getR e_X3_timesOf_76 f_X3_17 (by assumption) (by assumption) ?_
          refine xV_iload_n e_X3_timesOf_79 rfl ?_
          refine xV_ialdN e_X3_timesOf_80 (by first | exact xRow.vp (by assumption) | exact xRow.vo (by omega) (by assumption)) (by omega) (by omega) ?_
          refine xV_icmp_eq e_X3_timesOf_81 (fun h81 => ?_) (fun h81 => ?_)
          · refine xV_iload_n e_X3_timesOf_93 rfl ?_
            refine xV_istore_n e_X3_timesOf_94 (Nat.le_of_ble_eq_true rfl) rfl ?_
            refine xV_iincN e_X3_timesOf_95 rfl rfl ?_
            refine xV_goto e_X3_timesOf_98 ?_
            refine xV_sub (xl' := [some (.ref m), some (.ref a), some (.int (nI mi)), some (.int (pTm P (I (m + 2)) mi (k + 1))), some (.int (nI (k + 1))), none]) ?_ (ih (by omega) _)
            rw [pTm_f (fun z => z.2.1 h81)]
            exact ⟨rfl, rfl, rfl, rfl, rfl, trivial⟩
          · refine xV_iload e_X3_timesOf_84 rfl ?_
            refine xV_if_eq e_X3_timesOf_86 (fun h86 => ?_) (fun h86 => ?_)
            · refine xV_iload_n e_X3_timesOf_93 rfl ?_
              refine xV_istore_n e_X3_timesOf_94 (Nat.le_of_ble_eq_true rfl) rfl ?_
              refine xV_iincN e_X3_timesOf_95 rfl rfl ?_
              refine xV_goto e_X3_timesOf_98 ?_
              refine xV_sub (xl' := [some (.ref m), some (.ref a), some (.int (nI mi)), some (.int (pTm P (I (m + 2)) mi (k + 1))), some (.int (nI (k + 1))), none]) ?_ (ih (by omega) _)
              rw [pTm_f (fun z => z.2.2.elim h27 (fun y => by rw [h46] at y; cases y))]
              exact ⟨rfl, rfl, rfl, rfl, rfl, trivial⟩
            · exact absurd rfl h86
      · refine xV_iconst (v := (nI 1)) e_X3_timesOf_49 (by decide) ?_
        refine xV_goto e_X3_timesOf_50 ?_
        refine xV_istore e_X3_timesOf_54 (Nat.le_of_ble_eq_true rfl) rfl ?_
        refine xV_aload_n e_X3_timesOf_56 rfl ?_
        refine xV_bipush (v := (nI 53)) e_X3_timesOf_57 (by decide) ?_
        refine xV_ialdN e_X3_timesOf_59 (by first | exact xRow.vp (by assumption) | exact xRow.vo (by omega) (by assumption)) (by omega) (by omega) ?_
        refine xV_iload e_X3_timesOf_60 rfl ?_
        refine xV_cS2i e_X3_timesOf_62 c_X3_70 (C_X3_hasH) (Nat.le_of_ble_eq_true rfl) ⟨(Nat.le_of_ble_eq_true rfl), (Nat.le_of_ble_eq_true rfl)⟩ (xle_r _) (xle_r _) ?_
        refine xV_if_neB e_X3_timesOf_65 (fun h65 => ?_) (fun h65 => ?_)
        · refine xV_iload_n e_X3_timesOf_93 rfl ?_
          refine xV_istore_n e_X3_timesOf_94 (Nat.le_of_ble_eq_true rfl) rfl ?_
          refine xV_iincN e_X3_timesOf_95 rfl rfl ?_
          refine xV_goto e_X3_timesOf_98 ?_
          refine xV_sub (xl' := [some (.ref m), some (.ref a), some (.int (nI mi)), some (.int (pTm P (I (m + 2)) mi (k + 1))), some (.int (nI (k + 1))), none]) ?_ (ih (by omega) _)
          rw [pTm_f (fun z => by rw [h65] at z; exact absurd z.1 (by decide))]
          exact ⟨rfl, rfl, rfl, rfl, rfl, trivial⟩
        · refine xV_aload_n e_X3_timesOf_68 rfl ?_
          refine xV_getR e_X3_timesOf_69 f_X3_17 (by assumption) (by assumption) ?_
          refine xV_iload e_X3_timesOf_72 rfl ?_
          refine xV_ialdN e_X3_timesOf_74 (by first | exact xRow.vp (by assumption) | exact xRow.vo (by omega) (by assumption)) (by omega) (by omega) ?_
          refine xV_aload_n e_X3_timesOf_75 rfl ?_
          refine xV_getR e_X3_timesOf_76 f_X3_17 (by assumption) (by assumption) ?_
          refine xV_iload_n e_X3_timesOf_79 rfl ?_
          refine xV_ialdN e_X3_timesOf_80 (by first | exact xRow.vp (by assumption) | exact xRow.vo (by omega) (by assumption)) (by omega) (by omega) ?_
          refine xV_icmp_eq e_X3_timesOf_81 (fun h81 => ?_) (fun h81 => ?_)
          · refine xV_iload_n e_X3_timesOf_93 rfl ?_
            refine xV_istore_n e_X3_timesOf_94 (Nat.le_of_ble_eq_true rfl) rfl ?_
            refine xV_iincN e_X3_timesOf_95 rfl rfl ?_
            refine xV_goto e_X3_timesOf_98 ?_
            refine xV_sub (xl' := [some (.ref m), some (.ref a), some (.int (nI mi)), some (.int (pTm P (I (m + 2)) mi (k + 1))), some (.int (nI (k + 1))), none]) ?_ (ih (by omega) _)
            rw [pTm_f (fun z => z.2.1 h81)]
            exact ⟨rfl, rfl, rfl, rfl, rfl, trivial⟩
          · refine xV_iload e_X3_timesOf_84 rfl ?_
            refine xV_if_eq e_X3_timesOf_86 (fun h86 => ?_) (fun h86 => ?_)
            · exact absurd h86 (by decide)
            · refine xV_iconst (v := (nI 2)) e_X3_timesOf_89 (by decide) ?_
              refine xV_goto e_X3_timesOf_90 ?_
              refine xV_istore_n e_X3_timesOf_94 (Nat.le_of_ble_eq_true rfl) rfl ?_
              refine xV_iincN e_X3_timesOf_95 rfl rfl ?_
              refine xV_goto e_X3_timesOf_98 ?_
              refine xV_sub (xl' := [some (.ref m), some (.ref a), some (.int (nI mi)), some (.int (pTm P (I (m + 2)) mi (k + 1))), some (.int (nI (k + 1))), none]) ?_ (ih (by omega) _)
              rw [pTm_t h65 h81 (Or.inr h46)]
              exact ⟨rfl, rfl, rfl, rfl, rfl, trivial⟩
set_option maxHeartbeats 4000000 in
set_option maxRecDepth 100000 in
theorem C_X3_timesOf {m mo : Nat} (hX : XM G T R m) (hmo : I m 5 = nI mo) (hm4 : mo ≤ 4) {a : Nat} {P : Nat → Int32} (hsa : xSh G T a = (4, 58)) (ha : m ≠ a ∧ m + 2 ≠ a) {mi : Nat} (hmi : mi < mo) : xCon G Y_X3_timesOf [.ref m, .ref a, .int (nI mi)] T R L (va_up I a P) (xD (some (.int (pTm P (I (m + 2)) mi mo))) T R L (va_up I a P)) := by
  refine xCon.mk (xl := [some (.ref m), some (.ref a), some (.int (nI mi)), none, none, none]) (by decide +kernel) (xle_r _) rfl (Nat.le_of_ble_eq_true rfl) rfl ?_
  refine xV_iconst (v := (nI 1)) e_X3_timesOf_0 (by decide) ?_
  refine xV_istore_n e_X3_timesOf_1 (Nat.le_of_ble_eq_true rfl) rfl ?_
  refine xV_iconst (v := (nI 0)) e_X3_timesOf_2 (by decide) ?_
  refine xV_istore e_X3_timesOf_3 (Nat.le_of_ble_eq_true rfl) rfl ?_
  exact P_X3_timesOf_5 hX hmo hm4 hsa ha hmi 0 (Nat.zero_le _) none
end XMB
