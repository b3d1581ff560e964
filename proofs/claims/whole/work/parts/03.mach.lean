/-! THE MACHINE, TOLD SIMPLY. A memory of typed rows over the cells from b0 on: T tells each cell's tag and length (0..3: an object of that class, 4: int[], 5: boolean[], 6: Mine[]),
R, L, I what references, longs and ints it holds. xV: from this place of this method, with these locals, this stack and this memory, the method comes to its end with the outcome o. -/
abbrev xG : Type := va_G × (ClassId × ClassId × ClassId) × Nat × Nat × (Nat × Nat × (Nat → Int32))
abbrev xT : Type := List (Nat × Nat)
abbrev xR : Type := Nat → Nat → Option Nat
abbrev xL : Type := Nat → Nat → Int64
abbrev xI : Type := Nat → Nat → Int32
abbrev xY : Type := MethodName × ByteArray × Nat × Option FieldType × Nat × Nat
abbrev xO : Type := xT × (Option Value → xR → xL → xI → Prop)
def xfk (ci k : Nat) : Nat := match ci with
  | 0 => if k < 5 then 2 else 0
  | 1 => if k = 0 then 2 else 0
  | 2 => ([2, 0, 2, 2, 2, 2, 2, 0, 2, 0, 2, 2, 0, 1] : List Nat).getD k 0
  | _ => ([0, 2, 0, 0, 0, 0, 2, 2, 0, 0, 0, 0, 2, 2, 1, 2, 0, 2, 2, 0, 2, 2, 2, 0] : List Nat).getD k 0
def xnf (ci : Nat) : Nat := match ci with | 0 => 12 | 1 => 4 | 2 => 14 | _ => 24
def xcn (ci : Nat) : String := match ci with | 0 => RX0 | 1 => RX1 | 2 => RX2 | _ => RX3
def xct (ci : Nat) : u_T := match ci with | 0 => TX0 | 1 => TX1 | 2 => TX2 | _ => TX3
def xcy (ci : Nat) : Nat → FieldType := match ci with | 0 => tyX0 | 1 => tyX1 | 2 => tyX2 | _ => tyX3
def xfv (ci k : Nat) (r : Nat → Option Nat) (l : Nat → Int64) (i : Nat → Int32) : Value := match xfk ci k with
  | 0 => .int (i k)
  | 1 => .long (l k)
  | _ => va_rf (r k)
def xmk (cs : ClassId × ClassId × ClassId) (t : Nat × Nat) (r : Nat → Option Nat) (l : Nat → Int64) (i : Nat → Int32) : va_E := match t.1 with
  | 4 => .inl (cs.1, t.2, .inl i)
  | 5 => .inl (cs.2.1, t.2, .inl i)
  | 6 => .inl (cs.2.2, t.2, .inr (.inr (.inr (.inr r))))
  | ci => if ci < 4 then .inr (ci, (List.range (xnf ci)).map (fun k => xfv ci k r l i)) else .inr (99, [])
def xSh (G : xG) (T : xT) (a : Nat) : Nat × Nat := if a < G.2.2.1 then (99, 0) else (T[a - G.2.2.1]?).getD (99, 0)
def xE (G : xG) (T : xT) (R : xR) (L : xL) (I : xI) (a : Nat) : va_E := xmk G.2.1 (xSh G T a) (R a) (L a) (I a)
def xads (G : xG) (T : xT) : List Nat := List.range' G.2.2.1 T.length
def xRp (G : xG) (T : xT) (R : xR) (L : xL) (I : xI) (H : Heap) : Prop := G.2.2.1 + T.length ≤ H.size ∧ va_P G.1 vwCl (va_pl (xads G T) (xE G T R L I)) H
def xA (G : xG) : Nat → Prop := fun q => G.2.2.1 ≤ q
def xnear (j : Nat) : Int32 := ([18, 37, 74, 132, 289, 594, 1188, 2120, 528, 1312, 2624, 1152] : List Int32).getD j 0
def xtys (G : xG) : List (ClassId × FieldType) := [(G.2.1.1, .int), (G.2.1.2.1, .boolean), (G.2.1.2.2, .object RX0)]
def xCx (G : xG) (s : State) : Prop := G.2.2.1 ≤ s.heap.size ∧ va_K G.1 vwCl (xtys G) s ∧ va_Z RX2 "NEAR" "[I" (.ref G.2.2.2.1) (xA G) s s.heap ∧ va_T .int G.2.2.2.1 12 (fun j => .int (xnear j)) (xA G) s s.heap ∧
  va_T .int G.2.2.2.2.1 G.2.2.2.2.2.1 (fun j => .int (G.2.2.2.2.2.2 j)) (xA G) s s.heap ∧ (∀ w ∈ xnest, va_Nw w s) ∧ va_AO RX0 s
def xsz (t : Nat × Nat) : Nat := if t.1 < 4 then xnf t.1 else t.2
def xZ (T : xT) : Nat := (T.map xsz).sum
def xle (A B : xT) : Prop := A.length ≤ B.length ∧ xZ A ≤ xZ B
theorem xle_r (A : xT) : xle A A := ⟨Nat.le_refl _, Nat.le_refl _⟩
def xws (Y : xY) : List Cond := .code Y.1 Y.2.1 Y.2.2.1 Y.2.2.2.1 :: xW
def xe : Nat → List (Option Value) → List (Nat × Value)
  | _, [] => []
  | i, some v :: t => (i, v) :: xe (i + 1) t
  | i, none :: t => xe (i + 1) t
/-- an answer of the kind that the method has -/
def xvok (Y : xY) (v : Option Value) : Prop := (Y.2.2.2.1 = none ∧ v = none) ∨ (Y.2.2.2.1 = some .int ∧ ∃ r, v = some (.int r)) ∨ (Y.2.2.2.1 = some .boolean ∧ ∃ r, v = some (.int r) ∧ narrow .boolean (.int r) = .int r) ∨ (Y.2.2.2.1 = some .long ∧ ∃ r, v = some (.long r))
def xret : Option FieldType → Instr
  | none => .return_
  | some .long => .lreturn
  | some _ => .ireturn
def xFix (G : xG) (Y : xY) (Tb : xT) (p : Program) (s : State) (m : MethodId) (args : Array Value) (meth : Method) (c : Code) : Prop :=
  p.tables.exec = Jvm.exec ∧ c.code = Y.2.1 ∧ c.maxLocals = Y.2.2.1 ∧ s.vm.findClass Y.1.cls = some m.cls ∧ (∀ w ∈ xW, w.before args s = true) ∧ (Y.1.name = "<init>" → meth.name = "<init>") ∧ s.heap.size = G.2.2.1 + Tb.length ∧ xCx G s
def xEnd (G : xG) (Y : xY) (p : Program) (l : Launch) (e : Env) (Rm : Room) (s : State) (m : MethodId) (args : Array Value) (below : List Frame) (meth : Method) (c : Code) (Tb : xT) (o : xO) (Q : State → Prop) : Prop :=
  ∀ (H : Heap) (locs : List Loc) (ls : Array Slot) (pc : Nat) (v : Option Value) (R : xR) (L : xL) (I : xI), decode Y.2.1 pc = .ok (xret Y.2.2.2.1, 1) → xvok Y v → o.2 v R L I → xRp G o.1 R L I H → va_S (xA G) s.heap H locs →
    W p l e Rm s m args below meth c H locs (o.1.length - Tb.length) (xZ o.1 - xZ Tb) Q (F0 m pc ls v.toList)
def xV (G : xG) (Y : xY) (Tb : xT) (o : xO) (pc : Nat) (xl : List (Option Value)) (st : List Value) (T : xT) (R : xR) (L : xL) (I : xI) : Prop :=
  ∀ (p : Program) (l : Launch) (e : Env) (Rm : Room) (s : State) (m : MethodId) (args : Array Value) (below : List Frame) (meth : Method) (c : Code) (H : Heap) (locs : List Loc) (Q : State → Prop) (ls : Array Slot),
    xFix G Y Tb p s m args meth c → (Rm.frames = Y.2.2.2.2.1 ∧ Rm.locals = Y.2.2.2.2.2 ∧ o.1.length - Tb.length ≤ Rm.cells ∧ xZ o.1 - xZ Tb ≤ Rm.slots) →
    lv_has ls Y.2.2.1 (xe 0 xl) → xl.length = Y.2.2.1 → xRp G T R L I H → va_S (xA G) s.heap H locs → xEnd G Y p l e Rm s m args below meth c Tb o Q →
    W p l e Rm s m args below meth c H locs (T.length - Tb.length) (xZ T - xZ Tb) Q (F0 m pc ls st)
def xQ (o : xO) (G : xG) : Array Value → State → Outcome → State → Prop := fun _ st oc t => (∃ (v : Option Value) (R : xR) (L : xL) (I : xI), oc = .returned v ∧ o.2 v R L I ∧ xRp G o.1 R L I t.heap) ∧ va_F (xA G) st t
/-- a method's contract: called with these arguments over this memory it returns with an outcome of o -/
def xCon (G : xG) (Y : xY) (av : List Value) (T : xT) (R : xR) (L : xL) (I : xI) (o : xO) : Prop :=
  xle T o.1 ∧ ∀ l : Launch, Met l Y.1 (xws Y) { frames := Y.2.2.2.2.1, cells := o.1.length - T.length, slots := xZ o.1 - xZ T, locals := Y.2.2.2.2.2 }
    (va_Pc av (fun U => U.heap.size = G.2.2.1 + T.length ∧ xCx G U ∧ xRp G T R L I U.heap)) (xQ o G) (o.1.length - T.length) (xZ o.1 - xZ T) (xA G)
/-- one outcome alone -/
def xD (v : Option Value) (T : xT) (R : xR) (L : xL) (I : xI) : xO := (T, fun v2 R2 L2 I2 => v2 = v ∧ R2 = R ∧ L2 = L ∧ I2 = I)
-- ===== small facts =====
theorem xcl {ci : Nat} (h : ci < 4) : vwCl[ci]? = some (xcn ci, xct ci, xnf ci) := by
  match ci, h with
  | 0, _ => rfl
  | 1, _ => rfl
  | 2, _ => rfl
  | 3, _ => rfl
theorem xcy_ok {ci : Nat} (h : ci < 4) : ∀ k, k < xnf ci → parseFieldDescriptor ((xct ci) k).2.2.1 = some ((xcy ci) k) := by
  match ci, h with
  | 0, _ => exact tyX0_ok
  | 1, _ => exact tyX1_ok
  | 2, _ => exact tyX2_ok
  | 3, _ => exact tyX3_ok
theorem xcy_nm {ci : Nat} (h : ci < 4) : ∀ a, a < xnf ci → ∀ b, b < xnf ci → a ≠ b → ((xct ci) a).2.1 ≠ ((xct ci) b).2.1 := by
  match ci, h with
  | 0, _ => exact nmX0
  | 1, _ => exact nmX1
  | 2, _ => exact nmX2
  | 3, _ => exact nmX3
theorem xmk_obj {cs : ClassId × ClassId × ClassId} {t : Nat × Nat} {r : Nat → Option Nat} {l : Nat → Int64} {i : Nat → Int32} {ci : Nat} (h : t.1 = ci) (h4 : ci < 4) : xmk cs t r l i = .inr (ci, (List.range (xnf ci)).map (fun k => xfv ci k r l i)) := by
  subst h
  obtain ⟨a, b⟩ := t
  match a, h4 with
  | 0, _ => rfl
  | 1, _ => rfl
  | 2, _ => rfl
  | 3, _ => rfl
theorem xmk_hi {cs : ClassId × ClassId × ClassId} {n t2 : Nat} {r : Nat → Option Nat} {l : Nat → Int64} {i : Nat → Int32} : xmk cs (n + 7, t2) r l i = .inr (99, []) := by
  show (if n + 7 < 4 then (Sum.inr (n + 7, (List.range (xnf (n + 7))).map (fun k => xfv (n + 7) k r l i)) : va_E) else .inr (99, [])) = .inr (99, [])
  rw [if_neg (by omega)]
theorem xsh_in {G : xG} {T : xT} {a : Nat} (h : (xSh G T a).1 < 99) : a ∈ xads G T := by
  unfold xSh at h
  split at h
  · exact absurd h (by decide)
  · rename_i hb
    by_cases hl : a - G.2.2.1 < T.length
    · exact List.mem_range'_1.mpr ⟨by omega, by omega⟩
    · rw [List.getElem?_eq_none (by omega)] at h
      exact absurd h (by decide)
theorem xads_at {G : xG} {T : xT} {f : Nat → va_E} {k : Nat} {q : Nat × va_E} (h : (va_pl (xads G T) f)[k]? = some q) : q.1 = G.2.2.1 + k := by
  simp only [va_pl, xads, List.getElem?_map, Option.map_eq_some_iff] at h
  obtain ⟨a, ha, rfl⟩ := h
  obtain ⟨h1, h2⟩ := List.getElem?_eq_some_iff.mp ha
  rw [← h2, List.getElem_range']
  simp
theorem xD_ok (G : xG) (T : xT) (f : Nat → va_E) : va_D (xA G) (va_pl (xads G T) f) := by
  refine ⟨fun i j p q hi hj hpq => ?_, fun k q hk => ?_⟩
  · have h1 := xads_at hi
    have h2 := xads_at hj
    omega
  · have h1 := xads_at hk
    show G.2.2.1 ≤ q.1
    omega
theorem xpl_get {L : List Nat} {f : Nat → va_E} {a : Nat} (h : a ∈ L) : ∃ k : Nat, (va_pl L f)[k]? = some (a, f a) := by
  apply List.getElem?_of_mem
  exact List.mem_map.mpr ⟨a, h, rfl⟩
theorem xpl_set {A : Nat → Prop} {L : List Nat} {f : Nat → va_E} {a k : Nat} {e : va_E} (hD : va_D A (va_pl L f)) (h : a ∈ L) (hk : (va_pl L f)[k]? = some (a, f a)) : (va_pl L f).set k (a, e) = va_pl L (va_up f a e) :=
  va_pl_set (X := []) hD h hk
theorem xe_mem : ∀ (xl : List (Option Value)) (k : Nat) (q : Nat × Value), q ∈ xe k xl ↔ ∃ j, q.1 = k + j ∧ xl[j]? = some (some q.2) := by
  intro xl
  induction xl with
  | nil => intro k q; simp [xe]
  | cons a t ih =>
    intro k q
    cases a with
    | none =>
      rw [show xe k (none :: t) = xe (k + 1) t from rfl, ih]
      constructor
      · rintro ⟨j, h1, h2⟩
        exact ⟨j + 1, by omega, by simpa using h2⟩
      · rintro ⟨j, h1, h2⟩
        cases j with
        | zero => simp at h2
        | succ j => exact ⟨j, by omega, by simpa using h2⟩
    | some v =>
      rw [show xe k (some v :: t) = (k, v) :: xe (k + 1) t from rfl, List.mem_cons, ih]
      constructor
      · rintro (rfl | ⟨j, h1, h2⟩)
        · exact ⟨0, by simp, by simp⟩
        · exact ⟨j + 1, by omega, by simpa using h2⟩
      · rintro ⟨j, h1, h2⟩
        cases j with
        | zero =>
          left
          simp at h2
          obtain ⟨a, b⟩ := q
          simp at h1 h2
          subst h1; subst h2
          rfl
        | succ j => exact Or.inr ⟨j, by omega, by simpa using h2⟩
theorem xl_at {ls : Array Slot} {n : Nat} {xl : List (Option Value)} (h : lv_has ls n (xe 0 xl)) {i : Nat} {v : Value} (hi : xl[i]? = some (some v)) : ls[i]? = some (.val v) :=
  h.2.2 (i, v) ((xe_mem xl 0 (i, v)).mpr ⟨i, by simp, hi⟩)
theorem xl_le {ls : Array Slot} {n : Nat} {l l' : List (Nat × Value)} (h : lv_has ls n l) (hs : ∀ q ∈ l', q ∈ l) : lv_has ls n l' := ⟨h.1, h.2.1, fun q hq => h.2.2 q (hs q hq)⟩
/-- the slot ahead of i is no long -/
def xlo (xl : List (Option Value)) : Nat → Bool
  | 0 => true
  | j + 1 => match xl[j]? with
    | some (some (.long _)) => false
    | some (some (.double _)) => false
    | _ => true
theorem xlo_ok {xl : List (Option Value)} {j i : Nat} {w : Value} (h : xlo xl i = true) (hj : xl[j]? = some (some w)) (hi : j + 1 = i) : ¬ w.category = 2 := by
  subst hi
  intro hc
  simp only [xlo, hj] at h
  cases w <;> simp [Value.category] at hc h
theorem xl_set1 {ls : Array Slot} {n : Nat} {xl : List (Option Value)} {i : Nat} {v : Value} (hn : i < xl.length) (ho : xlo xl i = true)
    (h : lv_has ls n ((i, v) :: (xe 0 xl).filter (fun q => !(q.1 == i) && !(q.1 + 1 == i && q.2.category == 2)))) : lv_has ls n (xe 0 (xl.set i (some v))) := by
  refine xl_le h (fun q hq => ?_)
  obtain ⟨j, h1, h2⟩ := (xe_mem _ 0 q).mp hq
  by_cases hj : i = j
  · subst hj
    rw [List.getElem?_set_self hn] at h2
    obtain ⟨a, b⟩ := q
    simp at h1 h2
    subst h1; subst h2
    exact List.mem_cons_self
  · rw [List.getElem?_set_ne hj] at h2
    refine List.mem_cons_of_mem _ (List.mem_filter.mpr ⟨(xe_mem _ 0 q).mpr ⟨j, h1, h2⟩, ?_⟩)
    have e1 : q.1 = j := by omega
    have e2 : (q.1 == i) = false := by simp [e1]; omega
    by_cases h3 : j + 1 = i
    · have := xlo_ok ho h2 h3
      simp [e1, this]; omega
    · simp [e1, h3]; omega
theorem xl_set2 {ls : Array Slot} {n : Nat} {xl : List (Option Value)} {i : Nat} {v : Value} (hn : i + 1 < xl.length) (ho : xlo xl i = true)
    (h : lv_has ls n ((i, v) :: (xe 0 xl).filter (fun q => !(q.1 == i) && (!(q.1 == i + 1) && !(q.1 + 1 == i && q.2.category == 2))))) : lv_has ls n (xe 0 ((xl.set i (some v)).set (i + 1) none)) := by
  refine xl_le h (fun q hq => ?_)
  obtain ⟨j, h1, h2⟩ := (xe_mem _ 0 q).mp hq
  by_cases hj1 : i + 1 = j
  · subst hj1
    rw [List.getElem?_set_self (by simpa using hn)] at h2
    simp at h2
  · rw [List.getElem?_set_ne hj1] at h2
    by_cases hj : i = j
    · subst hj
      rw [List.getElem?_set_self (by omega)] at h2
      obtain ⟨a, b⟩ := q
      simp at h1 h2
      subst h1; subst h2
      exact List.mem_cons_self
    · rw [List.getElem?_set_ne hj] at h2
      refine List.mem_cons_of_mem _ (List.mem_filter.mpr ⟨(xe_mem _ 0 q).mpr ⟨j, h1, h2⟩, ?_⟩)
      have e1 : q.1 = j := by omega
      by_cases h3 : j + 1 = i
      · have := xlo_ok ho h2 h3
        simp [e1, this]; omega
      · simp [e1, h3]; omega
