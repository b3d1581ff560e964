/-! NEW CELLS; THE SAME MEMORY IN OTHER WORDS; THE LAW'S OWN FRAME -/
def xCN (own : String) (idx ci : Nat) : Prop := ci < 4 ∧ Cond.classLink own idx (xcn ci) ∈ xW ∧ Cond.instantiable (xcn ci) (xnf ci) ∈ xW ∧ Cond.initialized (xcn ci) ∈ xW
theorem xdef0 : ∀ k, k < 12 → defaultValue (tyX0 k) = xfv 0 k (fun _ => none) (fun _ => 0) (fun _ => 0) := by decide +kernel
theorem xdef1 : ∀ k, k < 4 → defaultValue (tyX1 k) = xfv 1 k (fun _ => none) (fun _ => 0) (fun _ => 0) := by decide +kernel
theorem xdef2 : ∀ k, k < 14 → defaultValue (tyX2 k) = xfv 2 k (fun _ => none) (fun _ => 0) (fun _ => 0) := by decide +kernel
theorem xdef3 : ∀ k, k < 24 → defaultValue (tyX3 k) = xfv 3 k (fun _ => none) (fun _ => 0) (fun _ => 0) := by decide +kernel
theorem xdef {ci k : Nat} (h : ci < 4) (hk : k < xnf ci) : defaultValue (xcy ci k) = xfv ci k (fun _ => none) (fun _ => 0) (fun _ => 0) := by
  match ci, h with
  | 0, _ => exact xdef0 k hk
  | 1, _ => exact xdef1 k hk
  | 2, _ => exact xdef2 k hk
  | 3, _ => exact xdef3 k hk
section XN
variable {G : xG} {Y : xY} {Tb : xT} {o : xO} {pc pc' idx : Nat} {xl : List (Option Value)} {st : List Value} {T : xT} {R : xR} {L : xL} {I : xI}
theorem xSh_old {t : Nat × Nat} {a : Nat} (h : a < G.2.2.1 + T.length) : xSh G (T ++ [t]) a = xSh G T a := by
  unfold xSh
  split
  · rfl
  · rw [List.getElem?_append_left (by omega)]
theorem xSh_new {t : Nat × Nat} : xSh G (T ++ [t]) (G.2.2.1 + T.length) = t := by
  unfold xSh
  rw [if_neg (by omega), show G.2.2.1 + T.length - G.2.2.1 = T.length by omega, List.getElem?_append_right (Nat.le_refl _), Nat.sub_self]
  rfl
theorem xRp_push {t : Nat × Nat} {H H1 : Heap} (hR : xRp G T R L I H) (z1 : H1.size = G.2.2.1 + T.length + 1) (o1 : ∀ q, q < G.2.2.1 + T.length → H1[q]? = H[q]?)
    (hn : va_at G.1 vwCl (G.2.2.1 + T.length, xmk G.2.1 t (R (G.2.2.1 + T.length)) (L (G.2.2.1 + T.length)) (I (G.2.2.1 + T.length))) H1) : xRp G (T ++ [t]) R L I H1 := by
  refine ⟨by rw [List.length_append, z1]; exact Nat.le_refl _, xP_iff.mpr (fun a ha => ?_)⟩
  obtain ⟨h1, h2⟩ := List.mem_range'_1.mp ha
  rw [List.length_append] at h2
  by_cases hl : a < G.2.2.1 + T.length
  · have h := xP_iff.mp hR.2 a (List.mem_range'_1.mpr ⟨h1, hl⟩)
    unfold xE at h ⊢
    rw [xSh_old hl]
    exact h.kept (o1 a hl)
  · have e : a = G.2.2.1 + T.length := by simp at h2; omega
    subst e
    unfold xE
    rw [xSh_new]
    exact hn
theorem xS_push {A : Nat → Prop} {H0 H H1 : Heap} {locs : List Loc} {h : Nat} (hS : va_S A H0 H locs) (z : H.size = h) (z1 : H1.size = h + 1) (o1 : ∀ q, q < h → H1[q]? = H[q]?) : va_S A H0 H1 locs :=
  ⟨Nat.le_trans hS.1 (by omega), fun x h1 h2 => (o1 x (by have := hS.1; omega)).trans (hS.2.1 x h1 h2), hS.2.2⟩
theorem xroom1 {t : Nat × Nat} (h1 : xle Tb T) (h3 : xle (T ++ [t]) o.1) {Rm : Room} (hc : o.1.length - Tb.length ≤ Rm.cells) (hs : xZ o.1 - xZ Tb ≤ Rm.slots) :
    T.length - Tb.length + 1 ≤ Rm.cells ∧ xZ T - xZ Tb + xsz t ≤ Rm.slots ∧ T.length - Tb.length + 1 = (T ++ [t]).length - Tb.length ∧ xZ T - xZ Tb + xsz t = xZ (T ++ [t]) - xZ Tb := by
  have e : xZ (T ++ [t]) = xZ T + xsz t := by simp [xZ]
  obtain ⟨a1, b1⟩ := h1
  obtain ⟨a3, b3⟩ := h3
  rw [e] at b3 ⊢
  rw [List.length_append] at a3 ⊢
  simp only [List.length_cons, List.length_nil] at a3 ⊢
  exact ⟨by omega, by omega, by omega, by omega⟩
theorem xV_new {ci a : Nat} (hd : decode Y.2.1 pc = .ok (.new idx, 3) ∧ pc + 3 = pc') (hc : xCN Y.1.cls idx ci) (ha : a = G.2.2.1 + T.length) (hz : ∀ k, R a k = none ∧ L a k = 0 ∧ I a k = 0) (h1 : xle Tb T) (h3 : xle (T ++ [(ci, 0)]) o.1)
    (k : xV G Y Tb o pc' xl (.ref a :: st) (T ++ [(ci, 0)]) R L I) : xV G Y Tb o pc xl st T R L I := by
  obtain ⟨hd, rfl⟩ := hd
  subst ha
  intro p l e Rm s m args below meth c H locs Q ls hF hRm hl hln hR hS hE
  obtain ⟨h4, hcl, hins, hini⟩ := hc
  obtain ⟨r1, r2, r3, r4⟩ := xroom1 h1 h3 hRm.2.2.1 hRm.2.2.2
  have hsz : xsz (ci, 0) = xnf ci := by simp [xsz, h4]
  rw [hsz] at r2 r4
  refine xW_size (fun hz2 => ?_)
  have hz2 : H.size = G.2.2.1 + T.length := by have := hR.1; have := hF.2.2.2.2.2.2.1; have := h1.1; omega
  have hts := hF.2.2.2.2.1
  have hK := hF.2.2.2.2.2.2.2.2.1
  have hKn := hK.1 ci _ (xcl h4)
  refine W.newcK hF.1 hF.2.1 hF.2.2.2.1 (hts _ hcl) (hts _ hins) (hts _ hini) rfl hd r1 r2 hKn.2.1 hz2 fun H1 kC hkC e1 z1 o1 => ?_
  have kk := k p l e Rm s m args below meth c H1 locs Q ls hF hRm hl hln (xRp_push hR z1 o1 ?_) (xS_push hS hz2 z1 o1) hE
  · rw [r3, r4]
    exact kk
  · rw [xmk_obj rfl h4]
    refine ⟨_, xcl h4, (u_born (xcy ci) hts (xin h4) hKn hkC e1 (xcy_ok h4)).to (fun j hj => ?_)⟩
    rw [xdef h4 hj]
    unfold vp_V
    rw [List.getD_eq_getElem?_getD, xfs_at hj]
    obtain ⟨q1, q2, q3⟩ := hz j
    simp [xfv, q1, q2, q3]
theorem xcI {s : State} {cA : ClassId} (hC : xCx G s) (h : s.vm.findClass ("[" ++ (newarray.typeOf .int).toString) = some cA) : cA = G.2.1.1 := by
  have h1 := (hC.2.1.2 0 (G.2.1.1, .int) rfl).2
  exact Option.some.inj (h.symm.trans h1)
theorem xcZ {s : State} {cA : ClassId} (hC : xCx G s) (h : s.vm.findClass ("[" ++ (newarray.typeOf .boolean).toString) = some cA) : cA = G.2.1.2.1 := by
  have h1 := (hC.2.1.2 1 (G.2.1.2.1, .boolean) rfl).2
  exact Option.some.inj (h.symm.trans h1)
theorem xcQ {s : State} {cA : ClassId} (hC : xCx G s) (h : s.vm.findClass ("[" ++ (FieldType.object RX0).toString) = some cA) : cA = G.2.1.2.2 := by
  obtain ⟨kA, comp, -, -, -, h1⟩ := (hC.2.1.2 2 (G.2.1.2.2, .object RX0) rfl).2
  exact Option.some.inj (h.symm.trans h1)
theorem xV_newI {a n : Nat} {v : Int32} (hd : decode Y.2.1 pc = .ok (.newarray .int, 2) ∧ pc + 2 = pc') (hw : Cond.arrayClass .int ∈ xW) (hv : v = nI n) (hn : n < 100000) (ha : a = G.2.2.1 + T.length) (hz : ∀ k, I a k = 0) (h1 : xle Tb T) (h3 : xle (T ++ [(4, n)]) o.1)
    (k : xV G Y Tb o pc' xl (.ref a :: st) (T ++ [(4, n)]) R L I) : xV G Y Tb o pc xl (.int v :: st) T R L I := by
  obtain ⟨hd, rfl⟩ := hd
  subst ha
  subst hv
  intro p l e Rm s m args below meth c H locs Q ls hF hRm hl hln hR hS hE
  obtain ⟨r1, r2, r3, r4⟩ := xroom1 h1 h3 hRm.2.2.1 hRm.2.2.2
  have hsz : xsz (4, n) = n := by simp [xsz]
  rw [hsz] at r2 r4
  refine xW_size (fun hz2 => ?_)
  have hz2 : H.size = G.2.2.1 + T.length := by have := hR.1; have := hF.2.2.2.2.2.2.1; have := h1.1; omega
  refine va_newaK (atype := .int) hF.1 hF.2.1 (hF.2.2.2.2.1 _ hw) rfl hd rfl (nI_pos (by omega)) (nI_clamp (by omega)) (by show n * 4 ≤ _; omega) r1 r2 hz2 fun H1 cA e1 z1 o1 hAr hNm => ?_
  have hcA := xcI hF.2.2.2.2.2.2.2 hNm
  subst hcA
  have kk := k p l e Rm s m args below meth c H1 locs Q ls hF hRm hl hln (xRp_push hR z1 o1 ?_) (xS_push hS hz2 z1 o1) hE
  · rw [r3, r4]
    exact kk
  · show H1[G.2.2.1 + T.length]? = some (vp_cell _ _)
    rw [e1]
    show _ = some (arrV _ n (fun j => .int (I _ j)))
    rw [show (fun j => Value.int (I (G.2.2.1 + T.length) j)) = (fun _ => defaultValue (newarray.typeOf .int)) from funext fun j => by rw [hz]; rfl]
theorem xV_newZ {a n : Nat} {v : Int32} (hd : decode Y.2.1 pc = .ok (.newarray .boolean, 2) ∧ pc + 2 = pc') (hw : Cond.arrayClass .boolean ∈ xW) (hv : v = nI n) (hn : n < 100000) (ha : a = G.2.2.1 + T.length) (hz : ∀ k, I a k = 0) (h1 : xle Tb T) (h3 : xle (T ++ [(5, n)]) o.1)
    (k : xV G Y Tb o pc' xl (.ref a :: st) (T ++ [(5, n)]) R L I) : xV G Y Tb o pc xl (.int v :: st) T R L I := by
  obtain ⟨hd, rfl⟩ := hd
  subst ha
  subst hv
  intro p l e Rm s m args below meth c H locs Q ls hF hRm hl hln hR hS hE
  obtain ⟨r1, r2, r3, r4⟩ := xroom1 h1 h3 hRm.2.2.1 hRm.2.2.2
  have hsz : xsz (5, n) = n := by simp [xsz]
  rw [hsz] at r2 r4
  refine xW_size (fun hz2 => ?_)
  have hz2 : H.size = G.2.2.1 + T.length := by have := hR.1; have := hF.2.2.2.2.2.2.1; have := h1.1; omega
  refine va_newaK (atype := .boolean) hF.1 hF.2.1 (hF.2.2.2.2.1 _ hw) rfl hd rfl (nI_pos (by omega)) (nI_clamp (by omega)) (by show n * 1 ≤ _; omega) r1 r2 hz2 fun H1 cA e1 z1 o1 hAr hNm => ?_
  have hcA := xcZ hF.2.2.2.2.2.2.2 hNm
  subst hcA
  have kk := k p l e Rm s m args below meth c H1 locs Q ls hF hRm hl hln (xRp_push hR z1 o1 ?_) (xS_push hS hz2 z1 o1) hE
  · rw [r3, r4]
    exact kk
  · show H1[G.2.2.1 + T.length]? = some (vp_cell _ _)
    rw [e1]
    show _ = some (arrV _ n (fun j => .int (I _ j)))
    rw [show (fun j => Value.int (I (G.2.2.1 + T.length) j)) = (fun _ => defaultValue (newarray.typeOf .boolean)) from funext fun j => by rw [hz]; rfl]
theorem xV_newQ {a n : Nat} {v : Int32} (hd : decode Y.2.1 pc = .ok (.anewarray idx, 3) ∧ pc + 3 = pc') (hw : Cond.classLink Y.1.cls idx RX0 ∈ xW) (hv : v = nI n) (hn : n < 100000) (ha : a = G.2.2.1 + T.length) (hz : ∀ k, R a k = none) (h1 : xle Tb T) (h3 : xle (T ++ [(6, n)]) o.1)
    (k : xV G Y Tb o pc' xl (.ref a :: st) (T ++ [(6, n)]) R L I) : xV G Y Tb o pc xl (.int v :: st) T R L I := by
  obtain ⟨hd, rfl⟩ := hd
  subst ha
  subst hv
  intro p l e Rm s m args below meth c H locs Q ls hF hRm hl hln hR hS hE
  obtain ⟨r1, r2, r3, r4⟩ := xroom1 h1 h3 hRm.2.2.1 hRm.2.2.2
  have hsz : xsz (6, n) = n := by simp [xsz]
  rw [hsz] at r2 r4
  refine xW_size (fun hz2 => ?_)
  have hz2 : H.size = G.2.2.1 + T.length := by have := hR.1; have := hF.2.2.2.2.2.2.1; have := h1.1; omega
  have hcl : (nI n).toNatClampNeg = n := nI_clamp (by omega)
  refine W.anew hF.1 hF.2.1 hF.2.2.2.1 (hF.2.2.2.2.1 _ hw) (va_AO.use hF.2.2.2.2.2.2.2.2.2.2.2.2.2) rfl hd rfl (nI_pos (by omega)) (by rw [hcl]; omega) r1 (by rw [hcl]; exact r2) fun cA kA comp f1 f2 f3 f4 => ?_
  have hcA := xcQ hF.2.2.2.2.2.2.2 f1
  subst hcA
  rw [hcl]
  generalize hH1 : H.push ({ cls := G.2.1.2.2, slots := Array.replicate n .null, vm := .none } : Cell) = H1
  have z1 : H1.size = G.2.2.1 + T.length + 1 := by rw [← hH1, Array.size_push, hz2]
  have e1 : H1[G.2.2.1 + T.length]? = some (arrV G.2.1.2.2 n (fun _ => .null)) := by rw [← hH1, ← hz2, Array.getElem?_push_size, ← arrV_new]
  have o1 : ∀ q : Nat, q < G.2.2.1 + T.length → H1[q]? = H[q]? := fun q hq => by rw [← hH1, Array.getElem?_push, if_neg (by omega)]
  have kk := k p l e Rm s m args below meth c H1 locs Q ls hF hRm hl hln (xRp_push hR z1 o1 ?_) (xS_push hS hz2 z1 o1) hE
  · rw [r3, r4, hz2]
    exact kk
  · show H1[G.2.2.1 + T.length]? = some (vp_cell _ _)
    rw [e1]
    show _ = some (arrV _ n (fun j => va_rf (R _ j)))
    rw [show (fun j => va_rf (R (G.2.2.1 + T.length) j)) = (fun _ => Value.null) from funext fun j => by rw [hz]; rfl]
/-- which ints of a cell are there at all -/
def xvl (G : xG) (T : xT) (a k : Nat) : Prop := ((xSh G T a).1 < 4 ∧ k < xnf (xSh G T a).1 ∧ xfk (xSh G T a).1 k = 0) ∨ (((xSh G T a).1 = 4 ∨ (xSh G T a).1 = 5) ∧ k < (xSh G T a).2)
theorem arrV_cong {cA : ClassId} {n : Nat} {f g : Nat → Value} (h : ∀ k, k < n → f k = g k) : arrV cA n f = arrV cA n g := by
  unfold arrV
  congr 1
  apply Array.ext
  · simp
  · intro i h1 h2
    simp only [Array.getElem_ofFn]
    exact h i (by simpa using h1)
theorem xRp_congI {I' : xI} {H : Heap} (h : ∀ a k, xvl G T a k → I a k = I' a k) (hR : xRp G T R L I H) : xRp G T R L I' H := by
  refine ⟨hR.1, xP_iff.mpr (fun a ha => ?_)⟩
  have q := xP_iff.mp hR.2 a ha
  have ha' := h a
  unfold xE at q ⊢
  unfold xvl at ha'
  generalize xSh G T a = t at q ha' ⊢
  obtain ⟨t1, t2⟩ := t
  by_cases h4 : t1 < 4
  · rw [xmk_obj rfl h4] at q ⊢
    refine (congrArg (fun x => va_at G.1 vwCl (a, .inr (t1, x)) H) (List.map_congr_left (fun k hk => ?_))).mp q
    have hk := List.mem_range.mp hk
    unfold xfv
    split
    · rename_i hkd
      rw [ha' k (Or.inl ⟨h4, hk, hkd⟩)]
    · rfl
    · rfl
  · match t1, h4 with
    | 4, _ =>
      have q : H[a]? = some (arrV G.2.1.1 t2 (fun j => .int (I a j))) := q
      show H[a]? = some (arrV G.2.1.1 t2 (fun j => .int (I' a j)))
      rw [q, arrV_cong (fun k hk => by rw [ha' k (Or.inr ⟨Or.inl rfl, hk⟩)])]
    | 5, _ =>
      have q : H[a]? = some (arrV G.2.1.2.1 t2 (fun j => .int (I a j))) := q
      show H[a]? = some (arrV G.2.1.2.1 t2 (fun j => .int (I' a j)))
      rw [q, arrV_cong (fun k hk => by rw [ha' k (Or.inr ⟨Or.inr rfl, hk⟩)])]
    | 6, _ => exact q
    | n + 7, _ => rw [xmk_hi] at q ⊢; exact q
theorem xV_congI {I' : xI} (h : ∀ a k, xvl G T a k → I a k = I' a k) (k : xV G Y Tb o pc xl st T R L I') : xV G Y Tb o pc xl st T R L I :=
  fun p l e Rm s m args below meth c H locs Q ls hF hRm hl hln hR hS hE => k p l e Rm s m args below meth c H locs Q ls hF hRm hl hln (xRp_congI h hR) hS hE
end XN
