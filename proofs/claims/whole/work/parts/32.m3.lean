/-! THE MODEL: fall, prayers, days -/
section XMC
variable {G : xG} {T : xT} {R : xR} {L : xL} {I : xI}
def pDu (ho : Int32) (P : Nat → Int32) : Nat → Int32
  | 0 => nI 0
  | k + 1 => pDu ho P k ||| (if hs (P 48) (nI k) = false ∧ ¬ P (12 + k) ≤ ho + P (24 + k) then nI 1 <<< (nI k &&& 31) else nI 0)
theorem pDu_t {ho : Int32} {P : Nat → Int32} {k : Nat} (h : hs (P 48) (nI k) = false) (h2 : ¬ P (12 + k) ≤ ho + P (24 + k)) : pDu ho P (k + 1) = pDu ho P k ||| (nI 1 <<< (nI k &&& 31)) := by rw [pDu, if_pos ⟨h, h2⟩]
theorem pDu_f {ho : Int32} {P : Nat → Int32} {k : Nat} (h : ¬ (hs (P 48) (nI k) = false ∧ ¬ P (12 + k) ≤ ho + P (24 + k))) : pDu ho P (k + 1) = pDu ho P k ||| nI 0 := by rw [pDu, if_neg h]
def pMk (c : Nat) (P : Nat → Int32) : Nat → (Nat → Int32)
  | 0 => P
  | j + 1 => upd (pMk c P j) 53 (pMk c P j 53 ||| (if pMk c P j (49 + j) = nI c then nI 1 <<< (nI j &&& 31) else nI 0))
def pB1 (P : Nat → Int32) (c : Nat) : Nat → Int32 := upd (upd (upd (upd (upd P 54 (P 54 + P c)) c (nI 0)) (12 + c) (nI 0)) (24 + c) (nI 0)) (36 + c) (nI 0)
def pB2 (P : Nat → Int32) (c : Nat) : Nat → Int32 := upd (pB1 P c) 48 (pB1 P c 48 ||| (nI 1 <<< (nI c &&& 31)))
def fA (mo : Nat) (now : Int32) (P : Nat → Int32) : Nat → (Nat → Int32)
  | 0 => P
  | c + 1 => if hs now (nI c) = true then pMk c (pB2 (fA mo now P c) c) mo else fA mo now P c
theorem fA_t {mo c : Nat} {now : Int32} {P : Nat → Int32} (h : hs now (nI c) = true) : fA mo now P (c + 1) = pMk c (pB2 (fA mo now P c) c) mo := by rw [fA, if_pos h]
theorem fA_f {mo c : Nat} {now : Int32} {P : Nat → Int32} (h : hs now (nI c) = false) : fA mo now P (c + 1) = fA mo now P c := by rw [fA, if_neg (by rw [h]; decide)]
def fO (now : Int32) (c : Nat) (P : Nat → Int32) : Nat → (Nat → Int32)
  | 0 => P
  | d + 1 => if hs now (nI c) = true ∧ aN (nI c) (nI d) = true then pLo (fO now c P d) d (nI 1) else fO now c P d
theorem fO_t {c d : Nat} {now : Int32} {P : Nat → Int32} (h : hs now (nI c) = true) (h2 : aN (nI c) (nI d) = true) : fO now c P (d + 1) = pLo (fO now c P d) d (nI 1) := by rw [fO, if_pos ⟨h, h2⟩]
theorem fO_f {c d : Nat} {now : Int32} {P : Nat → Int32} (h : hs now (nI c) = false ∨ aN (nI c) (nI d) = false) : fO now c P (d + 1) = fO now c P d := by
  rw [fO, if_neg]
  rintro ⟨z1, z2⟩
  rcases h with h | h
  · rw [h] at z1; cases z1
  · rw [h] at z2; cases z2
def fB (now : Int32) (P : Nat → Int32) : Nat → (Nat → Int32)
  | 0 => P
  | c + 1 => fO now c (fB now P c) 12
def pW (mo : Nat) (now : Int32) (P : Nat → Int32) : Nat → Int32 := fB now (fA mo now P 12) 12
set_option maxHeartbeats 4000000 in
set_option maxRecDepth 100000 in
theorem P_X3_fall_13 {m mo : Nat} (hX : XM G T R m) (hmo : I m 5 = nI mo) (hm4 : mo ≤ 4) {a : Nat} {P : Nat → Int32} (hsa : xSh G T a = (4, 58)) (ha : m ≠ a ∧ m + 2 ≠ a) {al now : Int32}  {o : xO} (ho : o.1 = T)
    (hout : ∀ j : Option Value, xV G Y_X3_fall T o 71 [some (.ref m), some (.ref a), some (.int al), some (.int (pDu (I m 4) P 12)), some (.int (nI 12)), j] [] T R L (va_up I a P)) : ∀ k, k ≤ 12 → ∀ j : Option Value, xV G Y_X3_fall T o 13 [some (.ref m), some (.ref a), some (.int al), some (.int (pDu (I m 4) P k)), some (.int (nI k)), j] [] T R L (va_up I a P) := by
  obtain ⟨m0, rt, st, rs, ss, rp, sp, rrp, srp, rrs, srs, rb, sb, rk, sk, ri, si, rc, sc, rv, sv, rr, sr⟩ := id hX
  obtain ⟨oT, oP⟩ := o
  subst ho
  refine xloop 12 (fun k hk0 ih => ?_)
  intro j
  refine xV_iload e_X3_fall_13 rfl ?_
  refine xV_bipush (v := (nI 12)) e_X3_fall_15 (by decide) ?_
  refine xV_icmp_geN e_X3_fall_17 (by omega) (by omega) (fun h17 => ?_) (fun h17 => ?_)
  · obtain rfl : k = 12 := by omega
    exact hout _
  · refine xV_iload_n e_X3_fall_20 rfl ?_
    refine xV_aload_n e_X3_fall_21 rfl ?_
    refine xV_bipush (v := (nI 48)) e_X3_fall_22 (by decide) ?_
    refine xV_ialdN e_X3_fall_24 (by first | exact xRow.vp (by assumption) | exact xRow.vo (by omega) (by assumption)) (by omega) (by omega) ?_
    refine xV_iload e_X3_fall_25 rfl ?_
    refine xV_cS2i e_X3_fall_27 c_X3_70 (C_X3_hasH) (Nat.le_of_ble_eq_true rfl) ⟨(Nat.le_of_ble_eq_true rfl), (Nat.le_of_ble_eq_true rfl)⟩ (xle_r _) (xle_r _) ?_
    refine xV_if_neB e_X3_fall_30 (fun h30 => ?_) (fun h30 => ?_)
    · refine xV_iconst (v := (nI 0)) e_X3_fall_62 (by decide) ?_
      refine xV_ior e_X3_fall_63 ?_
      refine xV_istore_n e_X3_fall_64 (Nat.le_of_ble_eq_true rfl) rfl ?_
      refine xV_iincN e_X3_fall_65 rfl rfl ?_
      refine xV_goto e_X3_fall_68 ?_
      have q := ih (by omega) j
      rw [pDu_f (fun z => by rw [h30] at z; exact absurd z.1 (by decide))] at q
      exact q
    · refine xV_aload_n e_X3_fall_33 rfl ?_
      refine xV_bipush (v := (nI 12)) e_X3_fall_34 (by decide) ?_
      refine xV_iload e_X3_fall_36 rfl ?_
      refine xV_iaddN e_X3_fall_38 ?_
      refine xV_ialdN e_X3_fall_39 (by first | exact xRow.vp (by assumption) | exact xRow.vo (by omega) (by assumption)) (by omega) (by omega) ?_
      refine xV_aload_n e_X3_fall_40 rfl ?_
      refine xV_getO e_X3_fall_41 f_X3_13 m0 (by omega) ?_
      refine xV_aload_n e_X3_fall_44 rfl ?_
      refine xV_bipush (v := (nI 24)) e_X3_fall_45 (by decide) ?_
      refine xV_iload e_X3_fall_47 rfl ?_
      refine xV_iaddN e_X3_fall_49 ?_
      refine xV_ialdN e_X3_fall_50 (by first | exact xRow.vp (by assumption) | exact xRow.vo (by omega) (by assumption)) (by omega) (by omega) ?_
      refine xV_iadd e_X3_fall_51 ?_
      refine xV_icmp_le e_X3_fall_52 (fun h52 => ?_) (fun h52 => ?_)
      · refine xV_iconst (v := (nI 0)) e_X3_fall_62 (by decide) ?_
        refine xV_ior e_X3_fall_63 ?_
        refine xV_istore_n e_X3_fall_64 (Nat.le_of_ble_eq_true rfl) rfl ?_
        refine xV_iincN e_X3_fall_65 rfl rfl ?_
        refine xV_goto e_X3_fall_68 ?_
        have q := ih (by omega) j
        rw [pDu_f (fun z => z.2 h52)] at q
        exact q
      · refine xV_iconst (v := (nI 1)) e_X3_fall_55 (by decide) ?_
        refine xV_iload e_X3_fall_56 rfl ?_
        refine xV_ishl e_X3_fall_58 ?_
        refine xV_goto e_X3_fall_59 ?_
        refine xV_ior e_X3_fall_63 ?_
        refine xV_istore_n e_X3_fall_64 (Nat.le_of_ble_eq_true rfl) rfl ?_
        refine xV_iincN e_X3_fall_65 rfl rfl ?_
        refine xV_goto e_X3_fall_68 ?_
        have q := ih (by omega) j
        rw [pDu_t h30 h52] at q
        exact q
set_option maxHeartbeats 4000000 in
set_option maxRecDepth 100000 in
theorem P_X3_fall_144 {m mo : Nat} (hX : XM G T R m) (hmo : I m 5 = nI mo) (hm4 : mo ≤ 4) {a : Nat} {P : Nat → Int32} (hsa : xSh G T a = (4, 58)) (ha : m ≠ a ∧ m + 2 ≠ a) {al now : Int32} {c : Nat} (hc : c < 12) {o : xO} (ho : o.1 = T)
    (hout : xV G Y_X3_fall T o 186 [some (.ref m), some (.ref a), some (.int al), some (.int now), some (.int (nI c)), some (.int (nI mo))] [] T R L (va_up I a (pMk c P mo))) : ∀ k, k ≤ mo → xV G Y_X3_fall T o 144 [some (.ref m), some (.ref a), some (.int al), some (.int now), some (.int (nI c)), some (.int (nI k))] [] T R L (va_up I a (pMk c P k)) := by
  obtain ⟨m0, rt, st, rs, ss, rp, sp, rrp, srp, rrs, srs, rb, sb, rk, sk, ri, si, rc, sc, rv, sv, rr, sr⟩ := id hX
  obtain ⟨oT, oP⟩ := o
  subst ho
  refine xloop mo (fun k hk0 ih => ?_)
  refine xV_iload e_X3_fall_144 rfl ?_
  refine xV_aload_n e_X3_fall_146 rfl ?_
  refine xV_getMO e_X3_fall_147 f_X3_51 m0 (by omega) hmo ?_
  refine xV_icmp_geN e_X3_fall_150 (by omega) (by omega) (fun h150 => ?_) (fun h150 => ?_)
  · obtain rfl : k = mo := by omega
    exact hout
  · refine xV_aload_n e_X3_fall_153 rfl ?_
    refine xV_bipush (v := (nI 53)) e_X3_fall_154 (by decide) ?_
    refine xV_dup2 e_X3_fall_156 rfl rfl ?_
    refine xV_ialdN e_X3_fall_157 (by first | exact xRow.vp (by assumption) | exact xRow.vo (by omega) (by assumption)) (by omega) (by omega) ?_
    refine xV_aload_n e_X3_fall_158 rfl ?_
    refine xV_bipush (v := (nI 49)) e_X3_fall_159 (by decide) ?_
    refine xV_iload e_X3_fall_161 rfl ?_
    refine xV_iaddN e_X3_fall_163 ?_
    refine xV_ialdN e_X3_fall_164 (by first | exact xRow.vp (by assumption) | exact xRow.vo (by omega) (by assumption)) (by omega) (by omega) ?_
    refine xV_iload e_X3_fall_165 rfl ?_
    refine xV_icmp_ne e_X3_fall_167 (fun h167 => ?_) (fun h167 => ?_)
    · refine xV_iconst (v := (nI 0)) e_X3_fall_177 (by decide) ?_
      refine xV_ior e_X3_fall_178 ?_
      refine xV_iastP e_X3_fall_179 (by assumption) (by omega) (by omega) ?_
      refine xV_iincN e_X3_fall_180 rfl rfl ?_
      refine xV_goto e_X3_fall_183 ?_
      have q := ih (by omega)
      rw [show pMk c P (k + 1) = upd (pMk c P k) 53 (pMk c P k 53 ||| nI 0) from by rw [pMk, if_neg h167]] at q
      exact q
    · refine xV_iconst (v := (nI 1)) e_X3_fall_170 (by decide) ?_
      refine xV_iload e_X3_fall_171 rfl ?_
      refine xV_ishl e_X3_fall_173 ?_
      refine xV_goto e_X3_fall_174 ?_
      refine xV_ior e_X3_fall_178 ?_
      refine xV_iastP e_X3_fall_179 (by assumption) (by omega) (by omega) ?_
      refine xV_iincN e_X3_fall_180 rfl rfl ?_
      refine xV_goto e_X3_fall_183 ?_
      have q := ih (by omega)
      rw [show pMk c P (k + 1) = upd (pMk c P k) 53 (pMk c P k 53 ||| (nI 1 <<< (nI k &&& 31))) from by rw [pMk, if_pos h167]] at q
      exact q
set_option maxHeartbeats 4000000 in
set_option maxRecDepth 100000 in
theorem P_X3_fall_74 {m mo : Nat} (hX : XM G T R m) (hmo : I m 5 = nI mo) (hm4 : mo ≤ 4) {a : Nat} {P : Nat → Int32} (hsa : xSh G T a = (4, 58)) (ha : m ≠ a ∧ m + 2 ≠ a) {al now : Int32} {o : xO} (ho : o.1 = T)
    (hout : ∀ j : Option Value, xV G Y_X3_fall T o 192 [some (.ref m), some (.ref a), some (.int al), some (.int now), some (.int (nI 12)), j] [] T R L (va_up I a (fA mo now P 12))) : ∀ k, k ≤ 12 → ∀ j : Option Value, xV G Y_X3_fall T o 74 [some (.ref m), some (.ref a), some (.int al), some (.int now), some (.int (nI k)), j] [] T R L (va_up I a (fA mo now P k)) := by
  obtain ⟨m0, rt, st, rs, ss, rp, sp, rrp, srp, rrs, srs, rb, sb, rk, sk, ri, si, rc, sc, rv, sv, rr, sr⟩ := id hX
  obtain ⟨oT, oP⟩ := o
  subst ho
  refine xloop 12 (fun k hk0 ih => ?_)
  intro j
  refine xV_iload e_X3_fall_74 rfl ?_
  refine xV_bipush (v := (nI 12)) e_X3_fall_76 (by decide) ?_
  refine xV_icmp_geN e_X3_fall_78 (by omega) (by omega) (fun h78 => ?_) (fun h78 => ?_)
  · obtain rfl : k = 12 := by omega
    exact hout _
  · refine xV_iload_n e_X3_fall_81 rfl ?_
    refine xV_iload e_X3_fall_82 rfl ?_
    refine xV_cS2i e_X3_fall_84 c_X3_70 (C_X3_hasH) (Nat.le_of_ble_eq_true rfl) ⟨(Nat.le_of_ble_eq_true rfl), (Nat.le_of_ble_eq_true rfl)⟩ (xle_r _) (xle_r _) ?_
    refine xV_if_eqB e_X3_fall_87 (fun h87 => ?_) (fun h87 => ?_)
    · refine xV_iincN e_X3_fall_186 rfl rfl ?_
      refine xV_goto e_X3_fall_189 ?_
      have q := ih (by omega) j
      rw [fA_f h87] at q
      exact q
    · refine xV_aload_n e_X3_fall_90 rfl ?_
      refine xV_bipush (v := (nI 54)) e_X3_fall_91 (by decide) ?_
      refine xV_dup2 e_X3_fall_93 rfl rfl ?_
      refine xV_ialdN e_X3_fall_94 (by first | exact xRow.vp (by assumption) | exact xRow.vo (by omega) (by assumption)) (by omega) (by omega) ?_
      refine xV_aload_n e_X3_fall_95 rfl ?_
      refine xV_iload e_X3_fall_96 rfl ?_
      refine xV_ialdN e_X3_fall_98 (by first | exact xRow.vp (by assumption) | exact xRow.vo (by omega) (by assumption)) (by omega) (by omega) ?_
      refine xV_iadd e_X3_fall_99 ?_
      refine xV_iastP e_X3_fall_100 (by assumption) (by omega) (by omega) ?_
      refine xV_aload_n e_X3_fall_101 rfl ?_
      refine xV_iload e_X3_fall_102 rfl ?_
      refine xV_iconst (v := (nI 0)) e_X3_fall_104 (by decide) ?_
      refine xV_iastP e_X3_fall_105 (by assumption) (by omega) (by omega) ?_
      refine xV_aload_n e_X3_fall_106 rfl ?_
      refine xV_bipush (v := (nI 12)) e_X3_fall_107 (by decide) ?_
      refine xV_iload e_X3_fall_109 rfl ?_
      refine xV_iaddN e_X3_fall_111 ?_
      refine xV_iconst (v := (nI 0)) e_X3_fall_112 (by decide) ?_
      refine xV_iastP e_X3_fall_113 (by assumption) (by omega) (by omega) ?_
      refine xV_aload_n e_X3_fall_114 rfl ?_
      refine xV_bipush (v := (nI 24)) e_X3_fall_115 (by decide) ?_
      refine xV_iload e_X3_fall_117 rfl ?_
      refine xV_iaddN e_X3_fall_119 ?_
      refine xV_iconst (v := (nI 0)) e_X3_fall_120 (by decide) ?_
      refine xV_iastP e_X3_fall_121 (by assumption) (by omega) (by omega) ?_
      refine xV_aload_n e_X3_fall_122 rfl ?_
      refine xV_bipush (v := (nI 36)) e_X3_fall_123 (by decide) ?_
      refine xV_iload e_X3_fall_125 rfl ?_
      refine xV_iaddN e_X3_fall_127 ?_
      refine xV_iconst (v := (nI 0)) e_X3_fall_128 (by decide) ?_
      refine xV_iastP e_X3_fall_129 (by assumption) (by omega) (by omega) ?_
      refine xV_aload_n e_X3_fall_130 rfl ?_
      refine xV_bipush (v := (nI 48)) e_X3_fall_131 (by decide) ?_
      refine xV_dup2 e_X3_fall_133 rfl rfl ?_
      refine xV_ialdN e_X3_fall_134 (by first | exact xRow.vp (by assumption) | exact xRow.vo (by omega) (by assumption)) (by omega) (by omega) ?_
      refine xV_iconst (v := (nI 1)) e_X3_fall_135 (by decide) ?_
      refine xV_iload e_X3_fall_136 rfl ?_
      refine xV_ishl e_X3_fall_138 ?_
      refine xV_ior e_X3_fall_139 ?_
      refine xV_iastP e_X3_fall_140 (by assumption) (by omega) (by omega) ?_
      refine xV_iconst (v := (nI 0)) e_X3_fall_141 (by decide) ?_
      refine xV_istore e_X3_fall_142 (Nat.le_of_ble_eq_true rfl) rfl ?_
      refine P_X3_fall_144 (P := pB2 (fA mo now P k) k) (c := k) hX hmo hm4 hsa ha (by omega) rfl ?_ 0 (Nat.zero_le _)
      refine xV_iinc e_X3_fall_186 rfl rfl rfl ?_
      refine xV_goto e_X3_fall_189 ?_
      have q := ih (by omega) (some (.int (nI mo)))
      rw [fA_t h87] at q
      rw [← nI_add] at q
      exact q
set_option maxHeartbeats 4000000 in
set_option maxRecDepth 100000 in
theorem P_X3_fall_205 {m mo : Nat} (hX : XM G T R m) (hmo : I m 5 = nI mo) (hm4 : mo ≤ 4) {a : Nat} {P : Nat → Int32} (hsa : xSh G T a = (4, 58)) (ha : m ≠ a ∧ m + 2 ≠ a) {al now : Int32} {c : Nat} {o : xO} (ho : o.1 = T)
    (hout : xV G Y_X3_fall T o 244 [some (.ref m), some (.ref a), some (.int al), some (.int now), some (.int (nI c)), some (.int (nI 12))] [] T R L (va_up I a (fO now c P 12))) : ∀ k, k ≤ 12 → xV G Y_X3_fall T o 205 [some (.ref m), some (.ref a), some (.int al), some (.int now), some (.int (nI c)), some (.int (nI k))] [] T R L (va_up I a (fO now c P k)) := by
  obtain ⟨m0, rt, st, rs, ss, rp, sp, rrp, srp, rrs, srs, rb, sb, rk, sk, ri, si, rc, sc, rv, sv, rr, sr⟩ := id hX
  obtain ⟨oT, oP⟩ := o
  subst ho
  refine xloop 12 (fun k hk0 ih => ?_)
  refine xV_iload e_X3_fall_205 rfl ?_
  refine xV_bipush (v := (nI 12)) e_X3_fall_207 (by decide) ?_
  refine xV_icmp_geN e_X3_fall_209 (by omega) (by omega) (fun h209 => ?_) (fun h209 => ?_)
  · obtain rfl : k = 12 := by omega
    exact hout
  · refine xV_iload_n e_X3_fall_212 rfl ?_
    refine xV_iload e_X3_fall_213 rfl ?_
    refine xV_cS2i e_X3_fall_215 c_X3_70 (C_X3_hasH) (Nat.le_of_ble_eq_true rfl) ⟨(Nat.le_of_ble_eq_true rfl), (Nat.le_of_ble_eq_true rfl)⟩ (xle_r _) (xle_r _) ?_
    refine xV_if_eqB e_X3_fall_218 (fun h218 => ?_) (fun h218 => ?_)
    · refine xV_iincN e_X3_fall_238 rfl rfl ?_
      refine xV_goto e_X3_fall_241 ?_
      have q := ih (by omega)
      rw [fO_f (Or.inl h218)] at q
      exact q
    · refine xV_iload e_X3_fall_221 rfl ?_
      refine xV_iload e_X3_fall_223 rfl ?_
      refine xV_cS2i e_X3_fall_225 c_X3_121 (C_X3_areNext) (Nat.le_of_ble_eq_true rfl) ⟨(Nat.le_of_ble_eq_true rfl), (Nat.le_of_ble_eq_true rfl)⟩ (xle_r _) (xle_r _) ?_
      refine xV_if_eqB e_X3_fall_228 (fun h228 => ?_) (fun h228 => ?_)
      · refine xV_iincN e_X3_fall_238 rfl rfl ?_
        refine xV_goto e_X3_fall_241 ?_
        have q := ih (by omega)
        rw [fO_f (Or.inr h228)] at q
        exact q
      · refine xV_aload_n e_X3_fall_231 rfl ?_
        refine xV_iload e_X3_fall_232 rfl ?_
        refine xV_iconst (v := (nI 1)) e_X3_fall_234 (by decide) ?_
        refine xV_cS3v e_X3_fall_235 c_X3_131 (C_X3_loosen hsa (by omega)) (Nat.le_of_ble_eq_true rfl) ⟨(Nat.le_of_ble_eq_true rfl), (Nat.le_of_ble_eq_true rfl)⟩ (xle_r _) (xle_r _) ?_
        refine xV_iincN e_X3_fall_238 rfl rfl ?_
        refine xV_goto e_X3_fall_241 ?_
        have q := ih (by omega)
        rw [fO_t h218 h228] at q
        exact q
set_option maxHeartbeats 4000000 in
set_option maxRecDepth 100000 in
theorem P_X3_fall_195 {m mo : Nat} (hX : XM G T R m) (hmo : I m 5 = nI mo) (hm4 : mo ≤ 4) {a : Nat} {P : Nat → Int32} (hsa : xSh G T a = (4, 58)) (ha : m ≠ a ∧ m + 2 ≠ a) {al now : Int32} {o : xO} (ho : o.1 = T)
    (hout : ∀ j : Option Value, xV G Y_X3_fall T o 250 [some (.ref m), some (.ref a), some (.int al), some (.int now), some (.int (nI 12)), j] [] T R L (va_up I a (fB now P 12))) : ∀ k, k ≤ 12 → ∀ j : Option Value, xV G Y_X3_fall T o 195 [some (.ref m), some (.ref a), some (.int al), some (.int now), some (.int (nI k)), j] [] T R L (va_up I a (fB now P k)) := by
  obtain ⟨m0, rt, st, rs, ss, rp, sp, rrp, srp, rrs, srs, rb, sb, rk, sk, ri, si, rc, sc, rv, sv, rr, sr⟩ := id hX
  obtain ⟨oT, oP⟩ := o
  subst ho
  refine xloop 12 (fun k hk0 ih => ?_)
  intro j
  refine xV_iload e_X3_fall_195 rfl ?_
  refine xV_bipush (v := (nI 12)) e_X3_fall_197 (by decide) ?_
  refine xV_icmp_geN e_X3_fall_199 (by omega) (by omega) (fun h199 => ?_) (fun h199 => ?_)
  · obtain rfl : k = 12 := by omega
    exact hout _
  · refine xV_iconst (v := (nI 0)) e_X3_fall_202 (by decide) ?_
    refine xV_istore e_X3_fall_203 (Nat.le_of_ble_eq_true rfl) rfl ?_
    refine P_X3_fall_205 (P := fB now P k) (c := k) hX hmo hm4 hsa ha rfl ?_ 0 (Nat.zero_le _)
    refine xV_iinc e_X3_fall_244 rfl rfl rfl ?_
    refine xV_goto e_X3_fall_247 ?_
    have q := ih (by omega) (some (.int (nI 12)))
    rw [← nI_add] at q
    exact q
set_option maxHeartbeats 4000000 in
set_option maxRecDepth 100000 in
theorem P_X3_fall_8 {m mo : Nat} (hX : XM G T R m) (hmo : I m 5 = nI mo) (hm4 : mo ≤ 4) {a : Nat} {P : Nat → Int32} (hsa : xSh G T a = (4, 58)) (ha : m ≠ a ∧ m + 2 ≠ a) {al now : Int32} {o : xO} (ho : o.1 = T) {j4 j5 : Option Value}
    (hout : ∀ i4 i5 : Option Value, xV G Y_X3_fall T o 4 [some (.ref m), some (.ref a), some (.int (al ||| pDu (I m 4) P 12)), some (.int (pDu (I m 4) P 12)), i4, i5] [] T R L (va_up I a (pW mo (pDu (I m 4) P 12) P))) : xV G Y_X3_fall T o 8 [some (.ref m), some (.ref a), some (.int al), some (.int now), j4, j5] [] T R L (va_up I a P) := by
  obtain ⟨m0, rt, st, rs, ss, rp, sp, rrp, srp, rrs, srs, rb, sb, rk, sk, ri, si, rc, sc, rv, sv, rr, sr⟩ := id hX
  obtain ⟨oT, oP⟩ := o
  subst ho
  refine xV_iconst (v := (nI 0)) e_X3_fall_8 (by decide) ?_
  refine xV_istore_n e_X3_fall_9 (Nat.le_of_ble_eq_true rfl) rfl ?_
  refine xV_iconst (v := (nI 0)) e_X3_fall_10 (by decide) ?_
  refine xV_istore e_X3_fall_11 (Nat.le_of_ble_eq_true rfl) rfl ?_
  refine P_X3_fall_13 (al := al) (now := nI 0) hX hmo hm4 hsa ha rfl ?_ 0 (Nat.zero_le _) _
  intro j1
  refine xV_iconst (v := (nI 0)) e_X3_fall_71 (by decide) ?_
  refine xV_istore e_X3_fall_72 (Nat.le_of_ble_eq_true rfl) rfl ?_
  refine P_X3_fall_74 (al := al) (now := pDu (I m 4) P 12) hX hmo hm4 hsa ha rfl ?_ 0 (Nat.zero_le _) _
  intro j2
  refine xV_iconst (v := (nI 0)) e_X3_fall_192 (by decide) ?_
  refine xV_istore e_X3_fall_193 (Nat.le_of_ble_eq_true rfl) rfl ?_
  refine P_X3_fall_195 (P := fA mo (pDu (I m 4) P 12) P 12) (al := al) (now := pDu (I m 4) P 12) hX hmo hm4 hsa ha rfl ?_ 0 (Nat.zero_le _) _
  intro j3
  refine xV_iload_n e_X3_fall_250 rfl ?_
  refine xV_iload_n e_X3_fall_251 rfl ?_
  refine xV_ior e_X3_fall_252 ?_
  refine xV_istore_n e_X3_fall_253 (Nat.le_of_ble_eq_true rfl) rfl ?_
  refine xV_goto e_X3_fall_254 ?_
  exact hout _ _
theorem hs_or {x y : Int32} {k : Nat} (h : k < 32) : hs (x ||| y) (nI k) = (hs x (nI k) || hs y (nI k)) := by rw [hs_bt h, hs_bt h, hs_bt h, b_or]
theorem hs_and {x y : Int32} {k : Nat} (h : k < 32) : hs (x &&& y) (nI k) = (hs x (nI k) && hs y (nI k)) := by rw [hs_bt h, hs_bt h, hs_bt h, b_and]
theorem hs_z {k : Nat} (h : k < 32) : hs (nI 0) (nI k) = false := by rw [hs_bt h]; exact b_0 k
theorem hs_one {c k : Nat} (hc : c < 32) (h : k < 32) : hs (nI 1 <<< (nI c &&& 31)) (nI k) = decide (k = c) := by
  rw [hs_bt h, b_shl c hc _ h, bt_one _ (by omega)]
  by_cases e : k = c
  · subst e; simp
  · rw [decide_eq_false e]
    by_cases z : c ≤ k
    · rw [decide_eq_false (by omega : ¬ k - c = 0), Bool.and_false]
    · rw [decide_eq_false z, Bool.false_and]
theorem upd_s {f : Nat → Int32} {k : Nat} {v : Int32} : upd f k v k = v := by simp [upd]
theorem upd_n {f : Nat → Int32} {k j : Nat} {v : Int32} (h : j ≠ k) : upd f k v j = f j := by simp [upd, h]
theorem hs_pDu {ho : Int32} {P : Nat → Int32} : ∀ n, n ≤ 12 → ∀ k, k < 32 → hs (pDu ho P n) (nI k) = (decide (k < n) && (!hs (P 48) (nI k) && !decide (P (12 + k) ≤ ho + P (24 + k)))) := by
  intro n
  induction n with
  | zero => intro _ k hk; rw [pDu, hs_z hk]; simp
  | succ n ih =>
    intro hn k hk
    rw [pDu, hs_or hk, ih (by omega) k hk]
    have e1 : decide (k < n + 1) = (decide (k < n) || decide (k = n)) := by rw [← Bool.decide_or]; exact decide_eq_decide.mpr (by omega)
    rw [e1]
    by_cases e : k = n
    · subst e
      by_cases c : hs (P 48) (nI k) = false ∧ ¬ P (12 + k) ≤ ho + P (24 + k)
      · rw [if_pos c, hs_one hk hk, c.1, decide_eq_false c.2]; simp
      · rw [if_neg c, hs_z hk]
        have c2 : (!hs (P 48) (nI k) && !decide (P (12 + k) ≤ ho + P (24 + k))) = false := by
          cases z : hs (P 48) (nI k)
          · have z2 : P (12 + k) ≤ ho + P (24 + k) := Classical.not_not.mp (fun y => c ⟨z, y⟩)
            rw [decide_eq_true z2]; rfl
          · rfl
        rw [c2]; simp
    · have c3 : hs (if hs (P 48) (nI n) = false ∧ ¬ P (12 + n) ≤ ho + P (24 + n) then nI 1 <<< (nI n &&& 31) else nI 0) (nI k) = false := by
        split
        · rw [hs_one (by omega) hk, decide_eq_false e]
        · exact hs_z hk
      rw [c3, decide_eq_false e]; simp
theorem pMk_o {c : Nat} {P : Nat → Int32} {k : Nat} (h : k ≠ 53) : ∀ n, pMk c P n k = P k := by
  intro n
  induction n with
  | zero => rfl
  | succ n ih => rw [pMk, upd_n h, ih]
theorem pB2_48 {P : Nat → Int32} {c : Nat} (hc : c < 12) : pB2 P c 48 = P 48 ||| (nI 1 <<< (nI c &&& 31)) := by
  unfold pB2 pB1
  rw [upd_s, upd_n (by omega), upd_n (by omega), upd_n (by omega), upd_n (by omega), upd_n (by omega)]
theorem fA_48 {mo : Nat} {now : Int32} {P : Nat → Int32} : ∀ n, n ≤ 12 → ∀ k, k < 32 → hs (fA mo now P n 48) (nI k) = (hs (P 48) (nI k) || (decide (k < n) && hs now (nI k))) := by
  intro n
  induction n with
  | zero => intro _ k hk; rw [fA]; simp
  | succ n ih =>
    intro hn k hk
    have e1 : decide (k < n + 1) = (decide (k < n) || decide (k = n)) := by rw [← Bool.decide_or]; exact decide_eq_decide.mpr (by omega)
    rw [e1]
    cases z : hs now (nI n)
    · rw [fA_f z, ih (by omega) k hk]
      by_cases e : k = n
      · subst e; rw [z]; simp
      · rw [decide_eq_false e]; simp
    · rw [fA_t z, pMk_o (by omega), pB2_48 (by omega), hs_or hk, ih (by omega) k hk, hs_one (by omega) hk]
      by_cases e : k = n
      · subst e; rw [z]; simp
      · rw [decide_eq_false e]; simp
theorem pLo_o {P : Nat → Int32} {c k : Nat} {b : Int32} (h : k ≠ 12 + c) : pLo P c b k = P k := by
  unfold pLo
  split
  · rfl
  · rw [upd_n h]
theorem fO_o {now : Int32} {c k : Nat} {P : Nat → Int32} (h : k < 12 ∨ 24 ≤ k) : ∀ n, n ≤ 12 → fO now c P n k = P k := by
  intro n
  induction n with
  | zero => intro _; rfl
  | succ n ih =>
    intro hn
    rw [fO]
    split
    · rw [pLo_o (by omega), ih (by omega)]
    · exact ih (by omega)
theorem fB_o {now : Int32} {k : Nat} {P : Nat → Int32} (h : k < 12 ∨ 24 ≤ k) : ∀ n, fB now P n k = P k := by
  intro n
  induction n with
  | zero => rfl
  | succ n ih => rw [fB, fO_o h 12 (Nat.le_refl _), ih]
/-- how many cells are not fallen -/
def mis (F : Int32) : Nat → Nat
  | 0 => 0
  | k + 1 => mis F k + (if hs F (nI k) = true then 0 else 1)
theorem mis_le {F F' : Int32} : ∀ n, (∀ k, k < n → hs F (nI k) = true → hs F' (nI k) = true) → mis F' n ≤ mis F n := by
  intro n
  induction n with
  | zero => intro _; exact Nat.le_refl _
  | succ n ih =>
    intro h
    have q := ih (fun k hk => h k (by omega))
    have z := h n (by omega)
    unfold mis
    by_cases e : hs F (nI n) = true
    · rw [if_pos e, if_pos (z e)]; exact q
    · rw [if_neg e]
      split <;> omega
theorem mis_lt {F F' : Int32} {j : Nat} : ∀ n, (∀ k, k < n → hs F (nI k) = true → hs F' (nI k) = true) → j < n → hs F (nI j) = false → hs F' (nI j) = true → mis F' n < mis F n := by
  intro n
  induction n with
  | zero => intro _ h; omega
  | succ n ih =>
    intro h hj h1 h2
    unfold mis
    by_cases e : j = n
    · subst e
      have q := mis_le j (fun k hk => h k (by omega))
      rw [if_pos h2, if_neg (by rw [h1]; decide)]
      omega
    · have q := ih (fun k hk => h k (by omega)) (by omega) h1 h2
      have z := h n (by omega)
      by_cases e : hs F (nI n) = true
      · rw [if_pos e, if_pos (z e)]; exact q
      · rw [if_neg e]
        split <;> omega
theorem mis_12 (F : Int32) : ∀ n, mis F n ≤ n := by
  intro n
  induction n with
  | zero => exact Nat.le_refl _
  | succ n ih => unfold mis; split <;> omega
theorem hs_zz {k : Nat} (h : k < 32) : hs 0 (nI k) = false := by rw [hs_bt h]; exact b_0 k
theorem fA_z {mo : Nat} {P : Nat → Int32} : ∀ n, n ≤ 12 → fA mo 0 P n = P := by
  intro n
  induction n with
  | zero => intro _; rfl
  | succ n ih => intro hn; rw [fA_f (hs_zz (by omega)), ih (by omega)]
theorem fO_z {c : Nat} {P : Nat → Int32} (hc : c < 32) : ∀ n, fO 0 c P n = P := by
  intro n
  induction n with
  | zero => rfl
  | succ n ih => rw [fO_f (Or.inl (hs_zz hc)), ih]
theorem fB_z {P : Nat → Int32} : ∀ n, n ≤ 12 → fB 0 P n = P := by
  intro n
  induction n with
  | zero => intro _; rfl
  | succ n ih => intro hn; rw [fB, ih (by omega), fO_z (by omega)]
theorem pW_z {mo : Nat} {P : Nat → Int32} : pW mo 0 P = P := by unfold pW; rw [fA_z 12 (Nat.le_refl _), fB_z 12 (Nat.le_refl _)]
theorem pW_48 {mo : Nat} {now : Int32} {P : Nat → Int32} {k : Nat} (hk : k < 32) : hs (pW mo now P 48) (nI k) = (hs (P 48) (nI k) || (decide (k < 12) && hs now (nI k))) := by
  unfold pW
  rw [fB_o (by omega), fA_48 12 (Nat.le_refl _) k hk]
theorem or_z {x : Int32} : x ||| 0 = x := b_ext fun i _ => by rw [b_or, b_0, Bool.or_false]
theorem ne_bit {x : Int32} (h : ¬ x = 0) : ∃ k, k < 32 ∧ hs x (nI k) = true := by
  apply Classical.byContradiction
  intro z
  apply h
  refine b_ext fun i hi => ?_
  rw [b_0, ← hs_bt hi]
  cases e : hs x (nI i)
  · rfl
  · exact absurd ⟨i, hi, e⟩ z
theorem mis_W {ho : Int32} {mo : Nat} {P : Nat → Int32} (h : ¬ pDu ho P 12 = 0) : mis (pW mo (pDu ho P 12) P 48) 12 < mis (P 48) 12 := by
  obtain ⟨k, hk, e⟩ := ne_bit h
  have e2 := e
  rw [hs_pDu 12 (Nat.le_refl _) k hk] at e2
  simp only [Bool.and_eq_true, decide_eq_true_eq, Bool.not_eq_true'] at e2
  refine mis_lt 12 (fun j hj hh => ?_) e2.1 e2.2.1 ?_
  · rw [pW_48 (by omega), hh]; rfl
  · rw [pW_48 hk, e, decide_eq_true e2.1]; simp
/-- all waves: the page, what fell -/
def pFl (ho : Int32) (mo : Nat) : Nat → (Nat → Int32) → Int32 → (Nat → Int32) × Int32
  | 0, P, al => (P, al)
  | n + 1, P, al => if pDu ho P 12 = 0 then (P, al) else pFl ho mo n (pW mo (pDu ho P 12) P) (al ||| pDu ho P 12)
set_option maxHeartbeats 4000000 in
set_option maxRecDepth 100000 in
theorem P_X3_fall_4 {m mo : Nat} (hX : XM G T R m) (hmo : I m 5 = nI mo) (hm4 : mo ≤ 4) {a : Nat} (hsa : xSh G T a = (4, 58)) (ha : m ≠ a ∧ m + 2 ≠ a) : ∀ n (P : Nat → Int32) (al now : Int32), ¬ now = 0 → mis (P 48) 12 ≤ n → ∀ i4 i5 : Option Value, xV G Y_X3_fall T (xD (some (.int (pFl (I m 4) mo (n + 1) P al).2)) T R L (va_up I a (pFl (I m 4) mo (n + 1) P al).1)) 4 [some (.ref m), some (.ref a), some (.int al), some (.int now), i4, i5] [] T R L (va_up I a P) := by
  obtain ⟨m0, rt, st, rs, ss, rp, sp, rrp, srp, rrs, srs, rb, sb, rk, sk, ri, si, rc, sc, rv, sv, rr, sr⟩ := id hX
  intro n
  induction n with
  | zero =>
    intro P al now hnow hmis i4 i5
    refine xV_iload_n e_X3_fall_4 rfl ?_
    refine xV_if_eq e_X3_fall_5 (fun h => absurd h hnow) (fun _ => ?_)
    refine P_X3_fall_8 hX hmo hm4 hsa ha rfl ?_
    intro j4 j5
    have hz : pDu (I m 4) P 12 = 0 := Classical.not_not.mp (fun z => by have := mis_W (mo := mo) z; omega)
    rw [pFl, if_pos hz, hz, pW_z, or_z]
    refine xV_iload_n e_X3_fall_4 rfl ?_
    refine xV_if_eq e_X3_fall_5 (fun _ => ?_) (fun h => absurd rfl h)
    refine xV_iload_n e_X3_fall_257 rfl ?_
    exact xV_ireturn e_X3_fall_258 rfl rfl ⟨rfl, rfl, rfl, rfl⟩
  | succ n ih =>
    intro P al now hnow hmis i4 i5
    refine xV_iload_n e_X3_fall_4 rfl ?_
    refine xV_if_eq e_X3_fall_5 (fun h => absurd h hnow) (fun _ => ?_)
    refine P_X3_fall_8 hX hmo hm4 hsa ha rfl ?_
    intro j4 j5
    by_cases hz : pDu (I m 4) P 12 = 0
    · rw [pFl, if_pos hz, hz, pW_z, or_z]
      refine xV_iload_n e_X3_fall_4 rfl ?_
      refine xV_if_eq e_X3_fall_5 (fun _ => ?_) (fun h => absurd rfl h)
      refine xV_iload_n e_X3_fall_257 rfl ?_
      exact xV_ireturn e_X3_fall_258 rfl rfl ⟨rfl, rfl, rfl, rfl⟩
    · rw [pFl, if_neg hz]
      have := mis_W (mo := mo) hz
      exact ih _ _ _ hz (by omega) j4 j5
theorem C_X3_fall {m mo : Nat} (hX : XM G T R m) (hmo : I m 5 = nI mo) (hm4 : mo ≤ 4) {a : Nat} {P : Nat → Int32} (hsa : xSh G T a = (4, 58)) (ha : m ≠ a ∧ m + 2 ≠ a) : xCon G Y_X3_fall [.ref m, .ref a] T R L (va_up I a P) (xD (some (.int (pFl (I m 4) mo 13 P (nI 0)).2)) T R L (va_up I a (pFl (I m 4) mo 13 P (nI 0)).1)) := by
  refine xCon.mk (xl := [some (.ref m), some (.ref a), none, none, none, none]) (by decide +kernel) (xle_r _) rfl (Nat.le_of_ble_eq_true rfl) rfl ?_
  refine xV_iconst (v := (nI 0)) e_X3_fall_0 (by decide) ?_
  refine xV_istore_n e_X3_fall_1 (Nat.le_of_ble_eq_true rfl) rfl ?_
  refine xV_iconst (v := (nI 1)) e_X3_fall_2 (by decide) ?_
  refine xV_istore_n e_X3_fall_3 (Nat.le_of_ble_eq_true rfl) rfl ?_
  exact P_X3_fall_4 hX hmo hm4 hsa ha 12 P (nI 0) (nI 1) (by decide) (mis_12 _ 12) none none

end XMC
