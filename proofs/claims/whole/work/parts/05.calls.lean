/-! CALLS, NEW CELLS, ENTRY AND END -/
def xent (vs : List Value) (n : Nat) : List (Option Value) :=
  let l := vs.flatMap (fun v => if v.category = 2 then [some v, none] else [some v])
  l ++ List.replicate (n - l.length) none
theorem xe_none : ∀ (k m : Nat), xe k (List.replicate m none) = [] := by
  intro k m
  induction m generalizing k with
  | zero => rfl
  | succ m ih => exact ih (k + 1)
theorem xe_ent : ∀ (vs : List Value) (k m : Nat), xe k (vs.flatMap (fun v => if v.category = 2 then [some v, none] else [some v]) ++ List.replicate m none) = lv_args k vs := by
  intro vs
  induction vs with
  | nil => intro k m; exact xe_none k m
  | cons v vs ih =>
    intro k m
    by_cases hc : v.category = 2
    · simp only [List.flatMap_cons, hc, if_true, List.cons_append, List.nil_append, lv_args]
      show (k, v) :: xe (k + 1 + 1) _ = _
      rw [ih]
    · simp only [List.flatMap_cons, hc, if_false, List.cons_append, List.nil_append, lv_args]
      show (k, v) :: xe (k + 1) _ = _
      rw [ih]
theorem xP_iff {D : va_G} {cl : List vw_C} {L : List Nat} {f : Nat → va_E} {H : Heap} : va_P D cl (va_pl L f) H ↔ ∀ a ∈ L, va_at D cl (a, f a) H := by
  constructor
  · intro h a ha
    obtain ⟨k, hk⟩ := xpl_get (f := f) ha
    exact h k _ hk
  · intro h k q hq
    obtain ⟨a, ha, rfl⟩ := List.mem_map.mp (List.mem_of_getElem? hq)
    exact h a ha
theorem xW_size {p : Program} {l : Launch} {e : Env} {R : Room} {s : State} {m : MethodId} {args : Array Value} {below : List Frame} {meth : Method} {c : Code} {H : Heap} {locs : List Loc} {cells slots : Nat} {Q : State → Prop} {g : JFrame}
    (k : H.size ≤ s.heap.size + cells → W p l e R s m args below meth c H locs cells slots Q g) : W p l e R s m args below meth c H locs cells slots Q g :=
  fun T hT X => k (by rw [← hT]; exact X.heapSize) T hT X
theorem xnest_warm {s U : State} (hW : s.WarmedH U.vm) (h : ∀ w ∈ xnest, va_Nw w s) : ∀ w ∈ xnest, va_Nw w U := by
  intro w hw
  have h1 := h w hw
  simp only [xnest, List.mem_cons, List.not_mem_nil, or_false] at hw
  rcases hw with rfl | rfl | rfl | rfl | rfl | rfl | rfl | rfl | rfl | rfl
  all_goals first | exact va_Nw.warmM hW h1 | exact va_Nw.warmF hW h1
theorem xCx.step {G : xG} {s U : State} {locs : List Loc} (hW : s.WarmedH U.vm) (hS : va_S (xA G) s.heap U.heap locs) (h : xCx G s) : xCx G U := by
  obtain ⟨h1, h2, h3, h4, h5, h6, h7⟩ := h
  exact ⟨Nat.le_trans h1 hS.1, h2.moved hW.alike, (h3.moved hW.alike).kept hS.2.1, (h4.moved hW.alike).kept hS.2.1, (h5.moved hW.alike).kept hS.2.1, xnest_warm hW h6, h7.moved hW.alike⟩
theorem xblind (G : xG) (av : List Value) (T : xT) (R : xR) (L : xL) (I : xI) : FrameBlind (va_Pc av (fun U => U.heap.size = G.2.2.1 + T.length ∧ xCx G U ∧ xRp G T R L I U.heap)) := by
  intro a U g mk h
  obtain ⟨h1, h2, h3, h4⟩ := h
  exact ⟨h1, h2, xCx.step (U := U.calling g mk a) (locs := []) (State.WarmedH.refl U) va_S.rf h3, h4⟩
theorem xgood {Y : xY} (h : Cond.code Y.1 Y.2.1 Y.2.2.1 Y.2.2.2.1 ∈ xW) : GoodIn xW (xws Y) := by
  have h1 : ∀ w ∈ xW, w ∈ xW ∧ ((w.onTables && w.keeps) = true ∨ ∃ ty, w = .arrayClass ty) := fun w hw => ⟨hw, good_of_word (List.mem_filter.mp hw).2⟩
  intro w hw
  rcases List.mem_cons.mp hw with rfl | hw
  · exact h1 _ h
  · exact h1 _ hw
/-- what a call's words say: the link (nest: under which host), the code, the number of arguments -/
def xCB (own : String) (idx : Nat) (Y : xY) (n : Nat) (nest : Option String) : Prop :=
  (match nest with | none => Cond.methodLink own idx Y.1 ∈ xW | some h => Cond.methodLinkNest own idx Y.1 h ∈ xnest) ∧ Cond.initialized Y.1.cls ∈ xW ∧ Cond.code Y.1 Y.2.1 Y.2.2.1 Y.2.2.2.1 ∈ xW ∧
  (Y.1.cls ≠ "java/lang/invoke/MethodHandle" ∧ Y.1.cls ≠ "java/lang/invoke/VarHandle" ∧ (parseMethodDescriptor Y.1.desc).map (fun d => d.parameters.length) = some n)
def xCS (own : String) (idx : Nat) (Y : xY) (n : Nat) (nest : Option String) : Prop := xCB own idx Y n nest ∧ Cond.static Y.1 ∈ xW
def xCI (own : String) (idx : Nat) (Y : xY) (n : Nat) (nest : Option String) : Prop := xCB own idx Y n nest ∧ Y.1.name = "<init>" ∧ Cond.instanceMethod Y.1 ∈ xW ∧ Y.2.2.2.1 = none
def xCV (own : String) (idx : Nat) (Y : xY) (n : Nat) (ci : Nat) : Prop := xCB own idx Y n none ∧ Cond.instanceMethod Y.1 ∈ xW ∧ Cond.selects Y.1.cls Y.1 Y.1 ∈ xW ∧ ci < 4 ∧ xcn ci = Y.1.cls
section XC
variable {G : xG} {Y Y' : xY} {Tb : xT} {o : xO} {pc pc' idx n : Nat} {xl : List (Option Value)} {st rest : List Value} {T T' : xT} {R R' : xR} {L L' : xL} {I I' : xI} {av : List Value} {P : Option Value → xR → xL → xI → Prop} {nest : Option String}
theorem xcall_go {p : Program} {l : Launch} {e : Env} {Rm : Room} {s : State} {m : MethodId} {args : Array Value} {below : List Frame} {meth : Method} {c : Code} {H : Heap} {locs : List Loc} {cells slots mc ms : Nat} {Q : State → Prop} {ls : Array Slot} {a : Array Value}
    (hrun : va_Run p l e Rm s m args below meth c H locs cells slots mc ms (F0 m pc ls st) rest (xQ (T', P) G a) (xA G)) (hS : va_S (xA G) s.heap H locs)
    (k : ∀ (v : Option Value) (R' : xR) (L' : xL) (I' : xI) (H1 : Heap) (locs1 : List Loc), P v R' L' I' → xRp G T' R' L' I' H1 → va_S (xA G) s.heap H1 locs1 → W p l e Rm s m args below meth c H1 locs1 (cells + mc) (slots + ms) Q (F0 m (pc + 3) ls (v.toList ++ rest))) : W p l e Rm s m args below meth c H locs cells slots Q (F0 m pc ls st) := by
  intro T0 hT X
  obtain ⟨v0, st₀, t, T1, L1, h0, X', hL, e1, e2, ⟨⟨v, R', L', I', hv, hp, hrp⟩, hz, hk⟩, hst⟩ := hrun T0 hT X
  have hv : v0 = v := by injection hv
  subst hv
  rw [h0] at hz hk
  obtain ⟨t2, a1, b1⟩ := k v0 R' L' I' T1.heap (locs ++ L1) hp (by rw [e1]; exact hrp)
    ⟨Nat.le_trans hS.1 (by rw [e1]; exact hz), fun q h1 h2 => by rw [e1, hk q (Nat.lt_of_lt_of_le h1 hS.1) h2]; exact hS.2.1 q h1 h2, fun q hq => by
      rcases List.mem_append.mp hq with h | h
      · exact hS.2.2 q h
      · exact hL q h⟩ T1 rfl X'
  exact ⟨t2, hst t2 a1, b1⟩
theorem xroom (h1 : xle Tb T) (h2 : xle T T') (h3 : xle T' o.1) {Rm : Room} (hc : o.1.length - Tb.length ≤ Rm.cells) (hs : xZ o.1 - xZ Tb ≤ Rm.slots) :
    (T.length - Tb.length + (T'.length - T.length) ≤ Rm.cells ∧ xZ T - xZ Tb + (xZ T' - xZ T) ≤ Rm.slots) ∧ T.length - Tb.length + (T'.length - T.length) = T'.length - Tb.length ∧ xZ T - xZ Tb + (xZ T' - xZ T) = xZ T' - xZ Tb := by
  obtain ⟨a1, b1⟩ := h1
  obtain ⟨a2, b2⟩ := h2
  obtain ⟨a3, b3⟩ := h3
  exact ⟨⟨by omega, by omega⟩, by omega, by omega⟩
theorem xpre {s : State} {H : Heap} {locs : List Loc} (hC : xCx G s) (hS : va_S (xA G) s.heap H locs) (hR : xRp G T R L I H) (hz : H.size = G.2.2.1 + T.length) : ∀ U : State, U.heap = H → s.WarmedH U.vm → va_Pc av (fun U => U.heap.size = G.2.2.1 + T.length ∧ xCx G U ∧ xRp G T R L I U.heap) av.toArray U :=
  fun U hU hW => ⟨rfl, by rw [hU]; exact hz, hC.step hW (by rw [hU]; exact hS), by rw [hU]; exact hR⟩
theorem xV_callS (hd : decode Y.2.1 pc = .ok (.invokestatic idx, 3) ∧ pc + 3 = pc') (hc : xCS Y.1.cls idx Y' n nest) (hcon : xCon G Y' av T R L I (T', P)) (hn : av.length = n) (hst : st = av.reverse ++ rest) (hcat : (rest.map fun v => v.category).sum ≤ 8)
    (hr : Y'.2.2.2.2.1 + 1 ≤ Y.2.2.2.2.1 ∧ 8 + (Y'.2.2.1 + 11) + Y'.2.2.2.2.2 ≤ Y.2.2.2.2.2) (h1 : xle Tb T) (h3 : xle T' o.1) (k : ∀ (v : Option Value) (R' : xR) (L' : xL) (I' : xI), P v R' L' I' → xV G Y Tb o pc' xl (v.toList ++ rest) T' R' L' I') : xV G Y Tb o pc xl st T R L I := by
  obtain ⟨hd, rfl⟩ := hd
  subst hst
  intro p l e Rm s m args below meth c H locs Q ls hF hRm hl hln hR hS hE
  obtain ⟨⟨hw, hini, hcode, hdd⟩, hstat⟩ := hc
  obtain ⟨hroom, hce, hse⟩ := xroom h1 hcon.1 h3 hRm.2.2.1 hRm.2.2.2
  refine xW_size (fun hz => ?_)
  have hz : H.size = G.2.2.1 + T.length := by have := hR.1; have := hF.2.2.2.2.2.2.1; have := h1.1; omega
  have hts := hF.2.2.2.2.1
  have hP := xpre (av := av) (R := R) (L := L) (I := I) hF.2.2.2.2.2.2.2 hS hR hz
  have kk : ∀ (v : Option Value) (R' : xR) (L' : xL) (I' : xI) (H1 : Heap) (locs1 : List Loc), P v R' L' I' → xRp G T' R' L' I' H1 → va_S (xA G) s.heap H1 locs1 → W p l e Rm s m args below meth c H1 locs1 (T.length - Tb.length + (T'.length - T.length)) (xZ T - xZ Tb + (xZ T' - xZ T)) Q (F0 m (pc + 3) ls (v.toList ++ rest)) := by
    intro v R' L' I' H1 locs1 q0 q1 q2
    rw [hce, hse]
    exact k v R' L' I' q0 p l e Rm s m args below meth c H1 locs1 Q ls hF hRm hl hln q1 q2 hE
  have hR2 : (Y'.2.2.2.2.1 + 1 ≤ Rm.frames ∧ 8 + (Y'.2.2.1 + 11) + Y'.2.2.2.2.2 ≤ Rm.locals) := by rw [hRm.1, hRm.2.1]; exact hr
  cases nest with
  | none =>
    refine xcall_go (va_runS (As := av) (rest := rest) ⟨hF.1, hF.2.1, hF.2.2.1, hF.2.2.2.1, hts⟩ (hcon.2 l) ⟨callB_of n hts (xgood hcode) rfl rfl rfl (hts _ hini) (hts _ hw) hdd hR2, hts _ hstat⟩ ⟨xblind G av T R L I, hP⟩ rfl hn hl.1 rfl (lv_room hcat) hd hroom) hS kk
  | some host =>
    refine xcall_go (va_runSN (As := av) (rest := rest) ⟨hF.1, hF.2.1, hF.2.2.1, hF.2.2.2.1, hts⟩ (hcon.2 l) ⟨va_cnB n hts (xgood hcode) rfl rfl rfl (hF.2.2.2.2.2.2.2.2.2.2.2.2.1 _ hw) (hts _ hini) hdd hR2, hts _ hstat, trivial⟩ ⟨xblind G av T R L I, hP⟩ rfl hn hl.1 rfl (lv_room hcat) hd hroom) hS kk
theorem xV_callI {b : Nat} (hd : decode Y.2.1 pc = .ok (.invokespecial idx, 3) ∧ pc + 3 = pc') (hc : xCI Y.1.cls idx Y' n nest) (hcon : xCon G Y' (.ref b :: av) T R L I (T', P)) (hn : av.length = n) (hst : st = av.reverse ++ .ref b :: rest) (hcat : (rest.map fun v => v.category).sum ≤ 8)
    (hr : Y'.2.2.2.2.1 + 1 ≤ Y.2.2.2.2.1 ∧ 8 + (Y'.2.2.1 + 11) + Y'.2.2.2.2.2 ≤ Y.2.2.2.2.2) (h1 : xle Tb T) (h3 : xle T' o.1) (k : ∀ (v : Option Value) (R' : xR) (L' : xL) (I' : xI), P v R' L' I' → xV G Y Tb o pc' xl (v.toList ++ rest) T' R' L' I') : xV G Y Tb o pc xl st T R L I := by
  obtain ⟨hd, rfl⟩ := hd
  subst hst
  intro p l e Rm s m args below meth c H locs Q ls hF hRm hl hln hR hS hE
  obtain ⟨⟨hw, hini, hcode, hdd⟩, hinit, hinst, hnone⟩ := hc
  obtain ⟨hroom, hce, hse⟩ := xroom h1 hcon.1 h3 hRm.2.2.1 hRm.2.2.2
  refine xW_size (fun hz => ?_)
  have hz : H.size = G.2.2.1 + T.length := by have := hR.1; have := hF.2.2.2.2.2.2.1; have := h1.1; omega
  have hts := hF.2.2.2.2.1
  have hP := xpre (av := .ref b :: av) (R := R) (L := L) (I := I) hF.2.2.2.2.2.2.2 hS hR hz
  have kk : ∀ (v : Option Value) (R' : xR) (L' : xL) (I' : xI) (H1 : Heap) (locs1 : List Loc), P v R' L' I' → xRp G T' R' L' I' H1 → va_S (xA G) s.heap H1 locs1 → W p l e Rm s m args below meth c H1 locs1 (T.length - Tb.length + (T'.length - T.length)) (xZ T - xZ Tb + (xZ T' - xZ T)) Q (F0 m (pc + 3) ls (v.toList ++ rest)) := by
    intro v R' L' I' H1 locs1 q0 q1 q2
    rw [hce, hse]
    exact k v R' L' I' q0 p l e Rm s m args below meth c H1 locs1 Q ls hF hRm hl hln q1 q2 hE
  have hR2 : (Y'.2.2.2.2.1 + 1 ≤ Rm.frames ∧ 8 + (Y'.2.2.1 + 11) + Y'.2.2.2.2.2 ≤ Rm.locals) := by rw [hRm.1, hRm.2.1]; exact hr
  have hG := xgood hcode
  rw [hnone] at hcode
  have hws : xws Y' = Cond.code Y'.1 Y'.2.1 Y'.2.2.1 none :: xW := by unfold xws; rw [hnone]
  cases nest with
  | none =>
    refine xcall_go (va_runI (As := av) (rest := rest) ⟨hF.1, hF.2.1, hF.2.2.1, hF.2.2.2.1, hts⟩ (hcon.2 l) ⟨callB_of n hts hG hws rfl rfl (hts _ hini) (hts _ hw) hdd hR2, hinit, hts _ hinst⟩ ⟨xblind G _ T R L I, hP⟩ rfl hn hl.1 rfl (lv_room hcat) hd hroom) hS kk
  | some host =>
    refine xcall_go (va_runIN (As := av) (rest := rest) ⟨hF.1, hF.2.1, hF.2.2.1, hF.2.2.2.1, hts⟩ (hcon.2 l) ⟨va_cnB n hts hG hws rfl rfl (hF.2.2.2.2.2.2.2.2.2.2.2.2.1 _ hw) (hts _ hini) hdd hR2, hinit, hts _ hinst⟩ ⟨xblind G _ T R L I, hP⟩ rfl hn hl.1 rfl (lv_room hcat) hd hroom) hS kk
theorem xV_callV {b ci : Nat} (hd : decode Y.2.1 pc = .ok (.invokevirtual idx, 3) ∧ pc + 3 = pc') (hc : xCV Y.1.cls idx Y' n ci) (hsh : (xSh G T b).1 = ci) (hcon : xCon G Y' (.ref b :: av) T R L I (T', P)) (hn : av.length = n) (hst : st = av.reverse ++ .ref b :: rest) (hcat : (rest.map fun v => v.category).sum ≤ 8)
    (hr : Y'.2.2.2.2.1 + 1 ≤ Y.2.2.2.2.1 ∧ 8 + (Y'.2.2.1 + 11) + Y'.2.2.2.2.2 ≤ Y.2.2.2.2.2) (h1 : xle Tb T) (h3 : xle T' o.1) (k : ∀ (v : Option Value) (R' : xR) (L' : xL) (I' : xI), P v R' L' I' → xV G Y Tb o pc' xl (v.toList ++ rest) T' R' L' I') : xV G Y Tb o pc xl st T R L I := by
  obtain ⟨hd, rfl⟩ := hd
  subst hst
  intro p l e Rm s m args below meth c H locs Q ls hF hRm hl hln hR hS hE
  obtain ⟨⟨hw, hini, hcode, hdd⟩, hinst, hsel, h4, hcn⟩ := hc
  obtain ⟨hroom, hce, hse⟩ := xroom h1 hcon.1 h3 hRm.2.2.1 hRm.2.2.2
  refine xW_size (fun hz => ?_)
  have hz : H.size = G.2.2.1 + T.length := by have := hR.1; have := hF.2.2.2.2.2.2.1; have := h1.1; omega
  have hts := hF.2.2.2.2.1
  have hP := xpre (av := .ref b :: av) (R := R) (L := L) (I := I) hF.2.2.2.2.2.2.2 hS hR hz
  have kk : ∀ (v : Option Value) (R' : xR) (L' : xL) (I' : xI) (H1 : Heap) (locs1 : List Loc), P v R' L' I' → xRp G T' R' L' I' H1 → va_S (xA G) s.heap H1 locs1 → W p l e Rm s m args below meth c H1 locs1 (T.length - Tb.length + (T'.length - T.length)) (xZ T - xZ Tb + (xZ T' - xZ T)) Q (F0 m (pc + 3) ls (v.toList ++ rest)) := by
    intro v R' L' I' H1 locs1 q0 q1 q2
    rw [hce, hse]
    exact k v R' L' I' q0 p l e Rm s m args below meth c H1 locs1 Q ls hF hRm hl hln q1 q2 hE
  have hR2 : (Y'.2.2.2.2.1 + 1 ≤ Rm.frames ∧ 8 + (Y'.2.2.1 + 11) + Y'.2.2.2.2.2 ≤ Rm.locals) := by rw [hRm.1, hRm.2.1]; exact hr
  obtain ⟨q0, hq⟩ := xhas (R := R) (L := L) (I := I) hsh h4
  obtain ⟨cell, g1, g2, g3⟩ := va_recv hF.2.2.2.2.2.2.2.2.1 hR.2 (xcl h4) hq
  refine xcall_go (va_runV (C := Y'.1.cls) (As := av) (rest := rest) ⟨hF.1, hF.2.1, hF.2.2.1, hF.2.2.2.1, hts⟩ (hcon.2 l) ⟨callB_of n hts (xgood hcode) rfl rfl rfl (hts _ hini) (hts _ hw) hdd hR2, hts _ hinst, hts _ hsel⟩ ⟨xblind G _ T R L I, ⟨cell, g1, g2, by rw [← hcn]; exact g3⟩, hP⟩ rfl hn hl.1 rfl (lv_room hcat) hd hroom) hS kk
theorem xV_objInit {b : Nat} (hd : decode Y.2.1 pc = .ok (.invokespecial idx, 3) ∧ pc + 3 = pc') (hw : Cond.methodLink Y.1.cls idx Lib.objectInit ∈ xW ∧ Cond.instanceMethod Lib.objectInit ∈ xW ∧ Cond.code Lib.objectInit ⟨#[0xb1]⟩ 1 none ∈ xW) (hfr : 1 ≤ Y.2.2.2.2.1) (hlo : (rest.map fun v => v.category).sum + 12 ≤ Y.2.2.2.2.2)
    (k : xV G Y Tb o pc' xl rest T R L I) : xV G Y Tb o pc xl (.ref b :: rest) T R L I := by
  obtain ⟨hd, rfl⟩ := hd
  intro p l e Rm s m args below meth c H locs Q ls hF hRm hl hln hR hS hE
  exact W.objInit hF.1 hF.2.1 hF.2.2.2.1 (hF.2.2.2.2.1 _ hw.1) (hF.2.2.2.2.1 _ hw.2.1) (hF.2.2.2.2.1 _ hw.2.2) rfl (hl.1.trans hF.2.2.1.symm) rfl hd (by rw [hRm.1]; exact hfr) (by rw [hRm.2.1]; show 2 * 0 + _ + 12 ≤ _; omega) (k p l e Rm s m args below meth c H locs Q ls hF hRm hl hln hR hS hE)
-- ===== returns =====
theorem xV_ireturn {x : Int32} (hd : decode Y.2.1 pc = .ok (.ireturn, 1)) (hr : Y.2.2.2.1 = some .int) (hT : o.1 = T) (h : o.2 (some (.int x)) R L I) : xV G Y Tb o pc xl [.int x] T R L I := by
  intro p l e Rm s m args below meth c H locs Q ls hF hRm hl hln hR hS hE
  have k := hE H locs ls pc (some (.int x)) R L I (by rw [hr]; exact hd) (Or.inr (Or.inl ⟨hr, x, rfl⟩)) h (by rw [hT]; exact hR) hS
  rw [hT] at k
  exact k
theorem xV_zreturn {x : Int32} (hd : decode Y.2.1 pc = .ok (.ireturn, 1)) (hr : Y.2.2.2.1 = some .boolean) (hn : narrow .boolean (.int x) = .int x) (hT : o.1 = T) (h : o.2 (some (.int x)) R L I) : xV G Y Tb o pc xl [.int x] T R L I := by
  intro p l e Rm s m args below meth c H locs Q ls hF hRm hl hln hR hS hE
  have k := hE H locs ls pc (some (.int x)) R L I (by rw [hr]; exact hd) (Or.inr (Or.inr (Or.inl ⟨hr, x, rfl, hn⟩))) h (by rw [hT]; exact hR) hS
  rw [hT] at k
  exact k
theorem xV_lreturn {x : Int64} (hd : decode Y.2.1 pc = .ok (.lreturn, 1)) (hr : Y.2.2.2.1 = some .long) (hT : o.1 = T) (h : o.2 (some (.long x)) R L I) : xV G Y Tb o pc xl [.long x] T R L I := by
  intro p l e Rm s m args below meth c H locs Q ls hF hRm hl hln hR hS hE
  have k := hE H locs ls pc (some (.long x)) R L I (by rw [hr]; exact hd) (Or.inr (Or.inr (Or.inr ⟨hr, x, rfl⟩))) h (by rw [hT]; exact hR) hS
  rw [hT] at k
  exact k
theorem xV_return (hd : decode Y.2.1 pc = .ok (.return_, 1)) (hr : Y.2.2.2.1 = none) (hT : o.1 = T) (h : o.2 none R L I) : xV G Y Tb o pc xl [] T R L I := by
  intro p l e Rm s m args below meth c H locs Q ls hF hRm hl hln hR hS hE
  have k := hE H locs ls pc none R L I (by rw [hr]; exact hd) (Or.inl ⟨hr, rfl⟩) h (by rw [hT]; exact hR) hS
  rw [hT] at k
  exact k
theorem xend {p : Program} {l : Launch} {e : Env} {Rm : Room} {s : State} {m : MethodId} {args : Array Value} {below : List Frame} {meth : Method} {c : Code}
    (hx : p.tables.exec = Jvm.exec) (hb : c.code = Y.2.1) (hret : meth.sig.returnType = Y.2.2.2.1) (hlk : meth.locks = false) :
    xEnd G Y p l e Rm s m args below meth c T o (MQ below (xQ o G) args s (o.1.length - T.length) (xZ o.1 - xZ T) (xA G)) := by
  intro H locs ls pc v R L I hd hok hp hR hS
  rcases hok with ⟨h1, rfl⟩ | ⟨h1, r, rfl⟩ | ⟨h1, r, rfl, h3⟩ | ⟨h1, r, rfl⟩
  · rw [h1] at hd hret
    exact W.vret hx hb hret (fun t ht hW => ⟨⟨_, R, L, I, rfl, hp, by rw [ht]; exact hR⟩, hS.F ht⟩) hS.2.2 hd hlk
  · rw [h1] at hd hret
    exact W.iret hx hb hret (fun t ht hW => ⟨⟨_, R, L, I, rfl, hp, by rw [ht]; exact hR⟩, hS.F ht⟩) hS.2.2 hd hlk
  · rw [h1] at hd hret
    exact W.zret hx hb hret h3 (fun t ht hW => ⟨⟨_, R, L, I, rfl, hp, by rw [ht]; exact hR⟩, hS.F ht⟩) hS.2.2 hd hlk
  · rw [h1] at hd hret
    exact W.lret hx hb hret (fun t ht hW => ⟨⟨_, R, L, I, rfl, hp, by rw [ht]; exact hR⟩, hS.F ht⟩) hS.2.2 hd hlk
theorem Met.ofWF {l : Launch} {y : MethodName} {ws ws' : List Cond} {rm : Room} {Pc : Array Value → State → Prop} {Qc : Array Value → State → Outcome → State → Prop} {mc ms : Nat} {free : Addr → Prop} {cc : ByteArray} {maxL : Nat} {ret : Option FieldType}
    (hy : plainFor y = true) (hw : ws = Cond.code y cc maxL ret :: ws')
    (body : ∀ p e s m args below meth c s₁, BodyLoose p l y (headSpec ws rm) cc maxL ret e s m args below meth c s₁ → c.maxLocals = maxL → Pc args s →
      W p l e (headSpec ws rm).room s m args below meth c s.heap [] 0 0 (MQ below Qc args s mc ms free) (entryFrame m args maxL)) : Met l y ws rm Pc Qc mc ms free := by
  refine MetFree.of_bodySF (code := cc) (maxLocals := maxL) (ret := ret) hy ?_ ?_
  · intro args s m h hn
    obtain ⟨meth, c, h1, h2, h3, h4, h5, h6, -, -⟩ := Cond.code_spec hn (atoms_spec (ws := ws) h _ (by rw [hw]; exact List.mem_cons_self))
    exact ⟨meth, c, h1, h2, h3, h4, h5, h6⟩
  · intro p e s m args below meth c s₁ B hml hP _
    have hh0 : s₁.heap = s.heap := by rw [B.state]; rfl
    obtain ⟨t, a1, o, b1, b2, b3⟩ := body p e s m args below meth c s₁ B hml hP s₁ hh0 (Stand.of_body B)
    exact ⟨t, o, a1, b1, b2, ⟨b3.1, b3.2⟩⟩
/-- a contract out of the walk of the body -/
theorem xCon.mk (hy : plainFor Y.1 = true) (hle : xle T o.1) (hxl : xent av Y.2.2.1 = xl) (hlen : (lg_sl av).length ≤ Y.2.2.1) (hxn : xl.length = Y.2.2.1) (h : xV G Y T o 0 xl [] T R L I) : xCon G Y av T R L I o := by
  refine ⟨hle, fun l => ?_⟩
  refine Met.ofWF (cc := Y.2.1) (maxL := Y.2.2.1) (ret := Y.2.2.2.1) hy rfl ?_
  intro p e s m args below meth c s₁ B hml hv
  obtain ⟨rfl, hsz, hC, hR⟩ := hv
  have hts := atoms_spec (ws := xws Y) B.pre
  have hl := lv_entry av hlen
  rw [lg_entry_eq]
  generalize (lg_sl av ++ List.replicate (Y.2.2.1 - (lg_sl av).length) Slot.unset).toArray = ls at hl ⊢
  have hl : lv_has ls Y.2.2.1 (xe 0 xl) := by
    rw [← hxl]
    unfold xent
    rw [xe_ent]
    exact hl
  have key := h p l e (headSpec (xws Y) { frames := Y.2.2.2.2.1, cells := o.1.length - T.length, slots := xZ o.1 - xZ T, locals := Y.2.2.2.2.2 }).room s m av.toArray below meth c s.heap [] _ ls
    ⟨B.exec, B.bytes, hml, findClass_of_methodNamed B.named, fun w hw => hts w (List.mem_cons_of_mem _ hw), fun q => (name_of_methodNamed B.named B.method).1.trans q, hsz, hC⟩ ⟨rfl, rfl, Nat.le_refl _, Nat.le_refl _⟩ hl hxn hR va_S.rf
    (xend B.exec B.bytes B.returns B.notSynchronized)
  rw [Nat.sub_self, Nat.sub_self] at key
  exact key
end XC
