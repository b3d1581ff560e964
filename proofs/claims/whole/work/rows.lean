section
-- ===== PART A: goes FIRST, ahead of the names: the tables' words, and 'selects' of the private methods out of them =====
/-- a private method of a class that the tables say can be made, by its rows of tables_1 -/
def lw_okq (q : MethodName × Nat) : Prop := (q.1.cls ≠ "java/lang/invoke/MethodHandle" ∧ q.1.cls ≠ "java/lang/invoke/VarHandle") ∧ Cond.instantiable q.1.cls q.2 ∈ tables_1 ∧ Cond.privateMethod q.1 ∈ tables_1 ∧ Cond.instanceMethod q.1 ∈ tables_1
theorem lw_p0 : lw_okq (⟨"PrayerTailings", "readText", "()I"⟩, 14) := ⟨⟨by decide +kernel, by decide +kernel⟩, List.mem_of_getElem? (i := 9) (by decide +kernel), List.mem_of_getElem? (i := 159) (by decide +kernel), List.mem_of_getElem? (i := 160) (by decide +kernel)⟩
theorem lw_p1 : lw_okq (⟨"PrayerTailings$Mine", "empty", "(I)V"⟩, 12) := ⟨⟨by decide +kernel, by decide +kernel⟩, List.mem_of_getElem? (i := 23) (by decide +kernel), List.mem_of_getElem? (i := 171) (by decide +kernel), List.mem_of_getElem? (i := 172) (by decide +kernel)⟩
theorem lw_p2 : lw_okq (⟨"PrayerTailings$Reader", "goOn", "(I)Z"⟩, 4) := ⟨⟨by decide +kernel, by decide +kernel⟩, List.mem_of_getElem? (i := 17) (by decide +kernel), List.mem_of_getElem? (i := 183) (by decide +kernel), List.mem_of_getElem? (i := 184) (by decide +kernel)⟩
theorem lw_p3 : lw_okq (⟨"PrayerTailings$Reader", "acceptsHold", "(I)Z"⟩, 4) := ⟨⟨by decide +kernel, by decide +kernel⟩, List.mem_of_getElem? (i := 17) (by decide +kernel), List.mem_of_getElem? (i := 187) (by decide +kernel), List.mem_of_getElem? (i := 188) (by decide +kernel)⟩
theorem lw_p4 : lw_okq (⟨"PrayerTailings$Reader", "acceptsPart", "(I)Z"⟩, 4) := ⟨⟨by decide +kernel, by decide +kernel⟩, List.mem_of_getElem? (i := 17) (by decide +kernel), List.mem_of_getElem? (i := 191) (by decide +kernel), List.mem_of_getElem? (i := 192) (by decide +kernel)⟩
theorem lw_p5 : lw_okq (⟨"PrayerTailings$Reader", "acceptsTens", "(II)Z"⟩, 4) := ⟨⟨by decide +kernel, by decide +kernel⟩, List.mem_of_getElem? (i := 17) (by decide +kernel), List.mem_of_getElem? (i := 201) (by decide +kernel), List.mem_of_getElem? (i := 202) (by decide +kernel)⟩
theorem lw_p6 : lw_okq (⟨"PrayerTailings$Reader", "acceptsOnes", "(II)Z"⟩, 4) := ⟨⟨by decide +kernel, by decide +kernel⟩, List.mem_of_getElem? (i := 17) (by decide +kernel), List.mem_of_getElem? (i := 205) (by decide +kernel), List.mem_of_getElem? (i := 206) (by decide +kernel)⟩
theorem lw_p7 : lw_okq (⟨"PrayerTailings$Reader", "tell", "()Z"⟩, 4) := ⟨⟨by decide +kernel, by decide +kernel⟩, List.mem_of_getElem? (i := 17) (by decide +kernel), List.mem_of_getElem? (i := 215) (by decide +kernel), List.mem_of_getElem? (i := 216) (by decide +kernel)⟩
theorem lw_p8 : lw_okq (⟨"PrayerTailings$Reader", "acceptsAmount", "([II)Z"⟩, 4) := ⟨⟨by decide +kernel, by decide +kernel⟩, List.mem_of_getElem? (i := 17) (by decide +kernel), List.mem_of_getElem? (i := 219) (by decide +kernel), List.mem_of_getElem? (i := 220) (by decide +kernel)⟩
theorem lw_p9 : lw_okq (⟨"PrayerTailings$Reader", "acceptsSect", "(I)Z"⟩, 4) := ⟨⟨by decide +kernel, by decide +kernel⟩, List.mem_of_getElem? (i := 17) (by decide +kernel), List.mem_of_getElem? (i := 224) (by decide +kernel), List.mem_of_getElem? (i := 225) (by decide +kernel)⟩
theorem lw_p10 : lw_okq (⟨"PrayerTailings", "remember", "()V"⟩, 14) := ⟨⟨by decide +kernel, by decide +kernel⟩, List.mem_of_getElem? (i := 9) (by decide +kernel), List.mem_of_getElem? (i := 303) (by decide +kernel), List.mem_of_getElem? (i := 304) (by decide +kernel)⟩
theorem lw_p11 : lw_okq (⟨"PrayerTailings$Mine", "loosen", "(II)V"⟩, 12) := ⟨⟨by decide +kernel, by decide +kernel⟩, List.mem_of_getElem? (i := 23) (by decide +kernel), List.mem_of_getElem? (i := 316) (by decide +kernel), List.mem_of_getElem? (i := 317) (by decide +kernel)⟩
theorem lw_p12 : lw_okq (⟨"PrayerTailings$Mine", "waves", "()I"⟩, 12) := ⟨⟨by decide +kernel, by decide +kernel⟩, List.mem_of_getElem? (i := 23) (by decide +kernel), List.mem_of_getElem? (i := 324) (by decide +kernel), List.mem_of_getElem? (i := 325) (by decide +kernel)⟩
theorem lw_p13 : lw_okq (⟨"PrayerTailings$Mine", "tooLoose", "()I"⟩, 12) := ⟨⟨by decide +kernel, by decide +kernel⟩, List.mem_of_getElem? (i := 23) (by decide +kernel), List.mem_of_getElem? (i := 328) (by decide +kernel), List.mem_of_getElem? (i := 329) (by decide +kernel)⟩
theorem lw_p14 : lw_okq (⟨"PrayerTailings$Mine", "fell", "(I)V"⟩, 12) := ⟨⟨by decide +kernel, by decide +kernel⟩, List.mem_of_getElem? (i := 23) (by decide +kernel), List.mem_of_getElem? (i := 332) (by decide +kernel), List.mem_of_getElem? (i := 333) (by decide +kernel)⟩
theorem lw_p15 : lw_okq (⟨"PrayerTailings", "breakOf", "(I)I"⟩, 14) := ⟨⟨by decide +kernel, by decide +kernel⟩, List.mem_of_getElem? (i := 9) (by decide +kernel), List.mem_of_getElem? (i := 374) (by decide +kernel), List.mem_of_getElem? (i := 375) (by decide +kernel)⟩
def lw_privs_1 : List (MethodName × Nat) := [(⟨"PrayerTailings", "readText", "()I"⟩, 14), (⟨"PrayerTailings$Mine", "empty", "(I)V"⟩, 12), (⟨"PrayerTailings$Reader", "goOn", "(I)Z"⟩, 4), (⟨"PrayerTailings$Reader", "acceptsHold", "(I)Z"⟩, 4), (⟨"PrayerTailings$Reader", "acceptsPart", "(I)Z"⟩, 4), (⟨"PrayerTailings$Reader", "acceptsTens", "(II)Z"⟩, 4), (⟨"PrayerTailings$Reader", "acceptsOnes", "(II)Z"⟩, 4), (⟨"PrayerTailings$Reader", "tell", "()Z"⟩, 4), (⟨"PrayerTailings$Reader", "acceptsAmount", "([II)Z"⟩, 4), (⟨"PrayerTailings$Reader", "acceptsSect", "(I)Z"⟩, 4), (⟨"PrayerTailings", "remember", "()V"⟩, 14), (⟨"PrayerTailings$Mine", "loosen", "(II)V"⟩, 12), (⟨"PrayerTailings$Mine", "waves", "()I"⟩, 12), (⟨"PrayerTailings$Mine", "tooLoose", "()I"⟩, 12), (⟨"PrayerTailings$Mine", "fell", "(I)V"⟩, 12), (⟨"PrayerTailings", "breakOf", "(I)I"⟩, 14)]
theorem lw_r1 : ∀ q ∈ lw_privs_1, lw_okq q := List.forall_mem_cons.mpr ⟨lw_p0, List.forall_mem_cons.mpr ⟨lw_p1, List.forall_mem_cons.mpr ⟨lw_p2, List.forall_mem_cons.mpr ⟨lw_p3, List.forall_mem_cons.mpr ⟨lw_p4, List.forall_mem_cons.mpr ⟨lw_p5, List.forall_mem_cons.mpr ⟨lw_p6, List.forall_mem_cons.mpr ⟨lw_p7, List.forall_mem_cons.mpr ⟨lw_p8, List.forall_mem_cons.mpr ⟨lw_p9, List.forall_mem_cons.mpr ⟨lw_p10, List.forall_mem_cons.mpr ⟨lw_p11, List.forall_mem_cons.mpr ⟨lw_p12, List.forall_mem_cons.mpr ⟨lw_p13, List.forall_mem_cons.mpr ⟨lw_p14, List.forall_mem_cons.mpr ⟨lw_p15, fun _ h => absurd h List.not_mem_nil⟩⟩⟩⟩⟩⟩⟩⟩⟩⟩⟩⟩⟩⟩⟩⟩
theorem lw_p16 : lw_okq (⟨"PrayerTailings", "bestCode", "(I)I"⟩, 14) := ⟨⟨by decide +kernel, by decide +kernel⟩, List.mem_of_getElem? (i := 9) (by decide +kernel), List.mem_of_getElem? (i := 382) (by decide +kernel), List.mem_of_getElem? (i := 383) (by decide +kernel)⟩
theorem lw_p17 : lw_okq (⟨"PrayerTailings", "setSong", "(II)V"⟩, 14) := ⟨⟨by decide +kernel, by decide +kernel⟩, List.mem_of_getElem? (i := 9) (by decide +kernel), List.mem_of_getElem? (i := 386) (by decide +kernel), List.mem_of_getElem? (i := 387) (by decide +kernel)⟩
theorem lw_p18 : lw_okq (⟨"PrayerTailings", "isSeenBy", "(I)Z"⟩, 14) := ⟨⟨by decide +kernel, by decide +kernel⟩, List.mem_of_getElem? (i := 9) (by decide +kernel), List.mem_of_getElem? (i := 429) (by decide +kernel), List.mem_of_getElem? (i := 430) (by decide +kernel)⟩
theorem lw_p19 : lw_okq (⟨"PrayerTailings", "nextTenth", "()I"⟩, 14) := ⟨⟨by decide +kernel, by decide +kernel⟩, List.mem_of_getElem? (i := 9) (by decide +kernel), List.mem_of_getElem? (i := 451) (by decide +kernel), List.mem_of_getElem? (i := 452) (by decide +kernel)⟩
theorem lw_p20 : lw_okq (⟨"PrayerTailingsModel", "readMine", "()I"⟩, 24) := ⟨⟨by decide +kernel, by decide +kernel⟩, List.mem_of_getElem? (i := 466) (by decide +kernel), List.mem_of_getElem? (i := 562) (by decide +kernel), List.mem_of_getElem? (i := 563) (by decide +kernel)⟩
theorem lw_p21 : lw_okq (⟨"PrayerTailingsModel", "figure", "(II)I"⟩, 24) := ⟨⟨by decide +kernel, by decide +kernel⟩, List.mem_of_getElem? (i := 466) (by decide +kernel), List.mem_of_getElem? (i := 566) (by decide +kernel), List.mem_of_getElem? (i := 567) (by decide +kernel)⟩
theorem lw_p22 : lw_okq (⟨"PrayerTailingsModel", "readPart", "()Z"⟩, 24) := ⟨⟨by decide +kernel, by decide +kernel⟩, List.mem_of_getElem? (i := 466) (by decide +kernel), List.mem_of_getElem? (i := 570) (by decide +kernel), List.mem_of_getElem? (i := 571) (by decide +kernel)⟩
theorem lw_p23 : lw_okq (⟨"PrayerTailingsModel", "readCell", "()Z"⟩, 24) := ⟨⟨by decide +kernel, by decide +kernel⟩, List.mem_of_getElem? (i := 466) (by decide +kernel), List.mem_of_getElem? (i := 574) (by decide +kernel), List.mem_of_getElem? (i := 575) (by decide +kernel)⟩
theorem lw_p24 : lw_okq (⟨"PrayerTailingsModel", "readCellOf", "(I)I"⟩, 24) := ⟨⟨by decide +kernel, by decide +kernel⟩, List.mem_of_getElem? (i := 466) (by decide +kernel), List.mem_of_getElem? (i := 578) (by decide +kernel), List.mem_of_getElem? (i := 579) (by decide +kernel)⟩
theorem lw_p25 : lw_okq (⟨"PrayerTailingsModel", "readMonk", "()Z"⟩, 24) := ⟨⟨by decide +kernel, by decide +kernel⟩, List.mem_of_getElem? (i := 466) (by decide +kernel), List.mem_of_getElem? (i := 586) (by decide +kernel), List.mem_of_getElem? (i := 587) (by decide +kernel)⟩
theorem lw_p26 : lw_okq (⟨"PrayerTailingsModel", "thereOf", "(I)I"⟩, 24) := ⟨⟨by decide +kernel, by decide +kernel⟩, List.mem_of_getElem? (i := 466) (by decide +kernel), List.mem_of_getElem? (i := 606) (by decide +kernel), List.mem_of_getElem? (i := 607) (by decide +kernel)⟩
theorem lw_p27 : lw_okq (⟨"PrayerTailingsModel", "noMonk", "(I)Z"⟩, 24) := ⟨⟨by decide +kernel, by decide +kernel⟩, List.mem_of_getElem? (i := 466) (by decide +kernel), List.mem_of_getElem? (i := 614) (by decide +kernel), List.mem_of_getElem? (i := 615) (by decide +kernel)⟩
theorem lw_p28 : lw_okq (⟨"PrayerTailingsModel", "timesOf", "([II)I"⟩, 24) := ⟨⟨by decide +kernel, by decide +kernel⟩, List.mem_of_getElem? (i := 466) (by decide +kernel), List.mem_of_getElem? (i := 618) (by decide +kernel), List.mem_of_getElem? (i := 619) (by decide +kernel)⟩
theorem lw_p29 : lw_okq (⟨"PrayerTailingsModel", "noOne", "(I)I"⟩, 24) := ⟨⟨by decide +kernel, by decide +kernel⟩, List.mem_of_getElem? (i := 466) (by decide +kernel), List.mem_of_getElem? (i := 629) (by decide +kernel), List.mem_of_getElem? (i := 630) (by decide +kernel)⟩
theorem lw_p30 : lw_okq (⟨"PrayerTailingsModel", "note", "()V"⟩, 24) := ⟨⟨by decide +kernel, by decide +kernel⟩, List.mem_of_getElem? (i := 466) (by decide +kernel), List.mem_of_getElem? (i := 633) (by decide +kernel), List.mem_of_getElem? (i := 634) (by decide +kernel)⟩
theorem lw_p31 : lw_okq (⟨"PrayerTailingsModel", "goPray", "([II)I"⟩, 24) := ⟨⟨by decide +kernel, by decide +kernel⟩, List.mem_of_getElem? (i := 466) (by decide +kernel), List.mem_of_getElem? (i := 637) (by decide +kernel), List.mem_of_getElem? (i := 638) (by decide +kernel)⟩
def lw_privs_2 : List (MethodName × Nat) := [(⟨"PrayerTailings", "bestCode", "(I)I"⟩, 14), (⟨"PrayerTailings", "setSong", "(II)V"⟩, 14), (⟨"PrayerTailings", "isSeenBy", "(I)Z"⟩, 14), (⟨"PrayerTailings", "nextTenth", "()I"⟩, 14), (⟨"PrayerTailingsModel", "readMine", "()I"⟩, 24), (⟨"PrayerTailingsModel", "figure", "(II)I"⟩, 24), (⟨"PrayerTailingsModel", "readPart", "()Z"⟩, 24), (⟨"PrayerTailingsModel", "readCell", "()Z"⟩, 24), (⟨"PrayerTailingsModel", "readCellOf", "(I)I"⟩, 24), (⟨"PrayerTailingsModel", "readMonk", "()Z"⟩, 24), (⟨"PrayerTailingsModel", "thereOf", "(I)I"⟩, 24), (⟨"PrayerTailingsModel", "noMonk", "(I)Z"⟩, 24), (⟨"PrayerTailingsModel", "timesOf", "([II)I"⟩, 24), (⟨"PrayerTailingsModel", "noOne", "(I)I"⟩, 24), (⟨"PrayerTailingsModel", "note", "()V"⟩, 24), (⟨"PrayerTailingsModel", "goPray", "([II)I"⟩, 24)]
theorem lw_r2 : ∀ q ∈ lw_privs_2, lw_okq q := List.forall_mem_cons.mpr ⟨lw_p16, List.forall_mem_cons.mpr ⟨lw_p17, List.forall_mem_cons.mpr ⟨lw_p18, List.forall_mem_cons.mpr ⟨lw_p19, List.forall_mem_cons.mpr ⟨lw_p20, List.forall_mem_cons.mpr ⟨lw_p21, List.forall_mem_cons.mpr ⟨lw_p22, List.forall_mem_cons.mpr ⟨lw_p23, List.forall_mem_cons.mpr ⟨lw_p24, List.forall_mem_cons.mpr ⟨lw_p25, List.forall_mem_cons.mpr ⟨lw_p26, List.forall_mem_cons.mpr ⟨lw_p27, List.forall_mem_cons.mpr ⟨lw_p28, List.forall_mem_cons.mpr ⟨lw_p29, List.forall_mem_cons.mpr ⟨lw_p30, List.forall_mem_cons.mpr ⟨lw_p31, fun _ h => absurd h List.not_mem_nil⟩⟩⟩⟩⟩⟩⟩⟩⟩⟩⟩⟩⟩⟩⟩⟩
theorem lw_p32 : lw_okq (⟨"PrayerTailingsModel", "fall", "([I)I"⟩, 24) := ⟨⟨by decide +kernel, by decide +kernel⟩, List.mem_of_getElem? (i := 466) (by decide +kernel), List.mem_of_getElem? (i := 644) (by decide +kernel), List.mem_of_getElem? (i := 645) (by decide +kernel)⟩
theorem lw_p33 : lw_okq (⟨"PrayerTailingsModel", "goDay", "([I)I"⟩, 24) := ⟨⟨by decide +kernel, by decide +kernel⟩, List.mem_of_getElem? (i := 466) (by decide +kernel), List.mem_of_getElem? (i := 664) (by decide +kernel), List.mem_of_getElem? (i := 665) (by decide +kernel)⟩
theorem lw_p34 : lw_okq (⟨"PrayerTailingsModel", "begin", "()V"⟩, 24) := ⟨⟨by decide +kernel, by decide +kernel⟩, List.mem_of_getElem? (i := 466) (by decide +kernel), List.mem_of_getElem? (i := 676) (by decide +kernel), List.mem_of_getElem? (i := 677) (by decide +kernel)⟩
theorem lw_p35 : lw_okq (⟨"PrayerTailingsModel", "goPsalm", "(II)I"⟩, 24) := ⟨⟨by decide +kernel, by decide +kernel⟩, List.mem_of_getElem? (i := 466) (by decide +kernel), List.mem_of_getElem? (i := 687) (by decide +kernel), List.mem_of_getElem? (i := 688) (by decide +kernel)⟩
theorem lw_p36 : lw_okq (⟨"PrayerTailingsModel", "findBest", "(I)I"⟩, 24) := ⟨⟨by decide +kernel, by decide +kernel⟩, List.mem_of_getElem? (i := 466) (by decide +kernel), List.mem_of_getElem? (i := 696) (by decide +kernel), List.mem_of_getElem? (i := 697) (by decide +kernel)⟩
theorem lw_p37 : lw_okq (⟨"PrayerTailingsModel", "prayAll", "([II)V"⟩, 24) := ⟨⟨by decide +kernel, by decide +kernel⟩, List.mem_of_getElem? (i := 466) (by decide +kernel), List.mem_of_getElem? (i := 712) (by decide +kernel), List.mem_of_getElem? (i := 713) (by decide +kernel)⟩
def lw_privs_3 : List (MethodName × Nat) := [(⟨"PrayerTailingsModel", "fall", "([I)I"⟩, 24), (⟨"PrayerTailingsModel", "goDay", "([I)I"⟩, 24), (⟨"PrayerTailingsModel", "begin", "()V"⟩, 24), (⟨"PrayerTailingsModel", "goPsalm", "(II)I"⟩, 24), (⟨"PrayerTailingsModel", "findBest", "(I)I"⟩, 24), (⟨"PrayerTailingsModel", "prayAll", "([II)V"⟩, 24)]
theorem lw_r3 : ∀ q ∈ lw_privs_3, lw_okq q := List.forall_mem_cons.mpr ⟨lw_p32, List.forall_mem_cons.mpr ⟨lw_p33, List.forall_mem_cons.mpr ⟨lw_p34, List.forall_mem_cons.mpr ⟨lw_p35, List.forall_mem_cons.mpr ⟨lw_p36, List.forall_mem_cons.mpr ⟨lw_p37, fun _ h => absurd h List.not_mem_nil⟩⟩⟩⟩⟩⟩
def lw_privs : List (MethodName × Nat) := lw_privs_1 ++ (lw_privs_2 ++ (lw_privs_3))
def lw_tbl : List Cond := k2_sels lw_privs ++ tables_1
theorem lw_privs_ok : ∀ q ∈ lw_privs, lw_okq q := by
  show ∀ q ∈ lw_privs_1 ++ (lw_privs_2 ++ (lw_privs_3)), lw_okq q
  exact List.forall_mem_append.mpr ⟨lw_r1, List.forall_mem_append.mpr ⟨lw_r2, lw_r3⟩⟩
-- ===== end of PART A; then your names; then what follows =====
end
section
def RX0 : String := "PrayerTailings$Mine"
def TX0 : u_T := fun k => match k with
  | 0 => ("PrayerTailings$Mine", "ore", "[I", true)
  | 1 => ("PrayerTailings$Mine", "loose", "[I", true)
  | 2 => ("PrayerTailings$Mine", "props", "[I", true)
  | 3 => ("PrayerTailings$Mine", "echoes", "[I", true)
  | 4 => ("PrayerTailings$Mine", "places", "[I", true)
  | 5 => ("PrayerTailings$Mine", "hold", "I", false)
  | 6 => ("PrayerTailings$Mine", "monks", "I", false)
  | 7 => ("PrayerTailings$Mine", "sects", "I", false)
  | 8 => ("PrayerTailings$Mine", "buried", "I", false)
  | 9 => ("PrayerTailings$Mine", "fallen", "I", false)
  | 10 => ("PrayerTailings$Mine", "taken", "I", false)
  | _ => ("PrayerTailings$Mine", "days", "I", false)
def tyX0 : Nat → FieldType := fun k => match k with
  | 0 => .array .int
  | 1 => .array .int
  | 2 => .array .int
  | 3 => .array .int
  | 4 => .array .int
  | 5 => .int
  | 6 => .int
  | 7 => .int
  | 8 => .int
  | 9 => .int
  | 10 => .int
  | _ => .int
theorem nmX0 : ∀ a, a < 12 → ∀ b, b < 12 → a ≠ b → (TX0 a).2.1 ≠ (TX0 b).2.1 := by decide +kernel
theorem tyX0_ok : ∀ k, k < 12 → parseFieldDescriptor (TX0 k).2.2.1 = some (tyX0 k) := by decide +kernel
abbrev cX0_init : ByteArray := prog_2_method_1_code
def yX0_init : MethodName := ⟨RX0, "<init>", "()V"⟩
abbrev cX0_clear : ByteArray := prog_2_method_2_code
def yX0_clear : MethodName := ⟨RX0, "clear", "()V"⟩
abbrev cX0_take : ByteArray := prog_2_method_3_code
def yX0_take : MethodName := ⟨RX0, "take", "(LPrayerTailings$Mine;)V"⟩
abbrev cX0_isFallen : ByteArray := prog_2_method_4_code
def yX0_isFallen : MethodName := ⟨RX0, "isFallen", "(I)Z"⟩
abbrev cX0_isMonk : ByteArray := prog_2_method_5_code
def yX0_isMonk : MethodName := ⟨RX0, "isMonk", "(I)Z"⟩
abbrev cX0_isLiving : ByteArray := prog_2_method_6_code
def yX0_isLiving : MethodName := ⟨RX0, "isLiving", "(I)Z"⟩
abbrev cX0_living : ByteArray := prog_2_method_7_code
def yX0_living : MethodName := ⟨RX0, "living", "()I"⟩
abbrev cX0_placeOf : ByteArray := prog_2_method_8_code
def yX0_placeOf : MethodName := ⟨RX0, "placeOf", "(I)I"⟩
abbrev cX0_addMonk : ByteArray := prog_2_method_9_code
def yX0_addMonk : MethodName := ⟨RX0, "addMonk", "(II)V"⟩
abbrev cX0_monksOn : ByteArray := prog_2_method_10_code
def yX0_monksOn : MethodName := ⟨RX0, "monksOn", "(I)I"⟩
abbrev cX0_oreLeft : ByteArray := prog_2_method_11_code
def yX0_oreLeft : MethodName := ⟨RX0, "oreLeft", "()I"⟩
abbrev cX0_forceOf : ByteArray := prog_2_method_12_code
def yX0_forceOf : MethodName := ⟨RX0, "forceOf", "(I)I"⟩
abbrev cX0_prayer : ByteArray := prog_2_method_13_code
def yX0_prayer : MethodName := ⟨RX0, "prayer", "(I)I"⟩
abbrev cX0_prayAll : ByteArray := prog_2_method_14_code
def yX0_prayAll : MethodName := ⟨RX0, "prayAll", "(I)V"⟩
abbrev cX0_endDay : ByteArray := prog_2_method_15_code
def yX0_endDay : MethodName := ⟨RX0, "endDay", "()I"⟩
abbrev cX0_loosenBy : ByteArray := prog_2_method_16_code
def yX0_loosenBy : MethodName := ⟨RX0, "loosenBy", "(I)V"⟩
abbrev cX0_propsWanting : ByteArray := prog_2_method_17_code
def yX0_propsWanting : MethodName := ⟨RX0, "propsWanting", "()I"⟩
abbrev cX0_loosen : ByteArray := prog_2_method_18_code
def yX0_loosen : MethodName := ⟨RX0, "loosen", "(II)V"⟩
abbrev cX0_waves : ByteArray := prog_2_method_19_code
def yX0_waves : MethodName := ⟨RX0, "waves", "()I"⟩
abbrev cX0_tooLoose : ByteArray := prog_2_method_20_code
def yX0_tooLoose : MethodName := ⟨RX0, "tooLoose", "()I"⟩
abbrev cX0_fell : ByteArray := prog_2_method_21_code
def yX0_fell : MethodName := ⟨RX0, "fell", "(I)V"⟩
abbrev cX0_empty : ByteArray := prog_2_method_22_code
def yX0_empty : MethodName := ⟨RX0, "empty", "(I)V"⟩
def RX1 : String := "PrayerTailings$Reader"
def TX1 : u_T := fun k => match k with
  | 0 => ("PrayerTailings$Reader", "draft", "LPrayerTailings$Mine;", true)
  | 1 => ("PrayerTailings$Reader", "due", "I", false)
  | 2 => ("PrayerTailings$Reader", "told", "I", false)
  | _ => ("PrayerTailings$Reader", "place", "I", false)
def tyX1 : Nat → FieldType := fun k => match k with
  | 0 => .object "PrayerTailings$Mine"
  | 1 => .int
  | 2 => .int
  | _ => .int
theorem nmX1 : ∀ a, a < 4 → ∀ b, b < 4 → a ≠ b → (TX1 a).2.1 ≠ (TX1 b).2.1 := by decide +kernel
theorem tyX1_ok : ∀ k, k < 4 → parseFieldDescriptor (TX1 k).2.2.1 = some (tyX1 k) := by decide +kernel
abbrev cX1_init : ByteArray := prog_3_method_1_code
def yX1_init : MethodName := ⟨RX1, "<init>", "()V"⟩
abbrev cX1_start : ByteArray := prog_3_method_2_code
def yX1_start : MethodName := ⟨RX1, "start", "()V"⟩
abbrev cX1_mayEnd : ByteArray := prog_3_method_3_code
def yX1_mayEnd : MethodName := ⟨RX1, "mayEnd", "()Z"⟩
abbrev cX1_accepts : ByteArray := prog_3_method_4_code
def yX1_accepts : MethodName := ⟨RX1, "accepts", "(I)Z"⟩
abbrev cX1_goOn : ByteArray := prog_3_method_5_code
def yX1_goOn : MethodName := ⟨RX1, "goOn", "(I)Z"⟩
abbrev cX1_acceptsHold : ByteArray := prog_3_method_6_code
def yX1_acceptsHold : MethodName := ⟨RX1, "acceptsHold", "(I)Z"⟩
abbrev cX1_acceptsPart : ByteArray := prog_3_method_7_code
def yX1_acceptsPart : MethodName := ⟨RX1, "acceptsPart", "(I)Z"⟩
abbrev cX1_acceptsTens : ByteArray := prog_3_method_8_code
def yX1_acceptsTens : MethodName := ⟨RX1, "acceptsTens", "(II)Z"⟩
abbrev cX1_acceptsOnes : ByteArray := prog_3_method_9_code
def yX1_acceptsOnes : MethodName := ⟨RX1, "acceptsOnes", "(II)Z"⟩
abbrev cX1_tell : ByteArray := prog_3_method_10_code
def yX1_tell : MethodName := ⟨RX1, "tell", "()Z"⟩
abbrev cX1_acceptsAmount : ByteArray := prog_3_method_11_code
def yX1_acceptsAmount : MethodName := ⟨RX1, "acceptsAmount", "([II)Z"⟩
abbrev cX1_acceptsSect : ByteArray := prog_3_method_12_code
def yX1_acceptsSect : MethodName := ⟨RX1, "acceptsSect", "(I)Z"⟩
def RX2 : String := "PrayerTailings"
def TX2 : u_T := fun k => match k with
  | 0 => ("PrayerTailings", "text", "[I", true)
  | 1 => ("PrayerTailings", "length", "I", false)
  | 2 => ("PrayerTailings", "reader", "LPrayerTailings$Reader;", true)
  | 3 => ("PrayerTailings", "now", "LPrayerTailings$Mine;", true)
  | 4 => ("PrayerTailings", "trial", "LPrayerTailings$Mine;", true)
  | 5 => ("PrayerTailings", "song", "[I", true)
  | 6 => ("PrayerTailings", "past", "[LPrayerTailings$Mine;", true)
  | 7 => ("PrayerTailings", "acts", "I", false)
  | 8 => ("PrayerTailings", "slots", "[LPrayerTailings$Mine;", true)
  | 9 => ("PrayerTailings", "kept", "I", false)
  | 10 => ("PrayerTailings", "seenCells", "[I", true)
  | 11 => ("PrayerTailings", "seenLoose", "[I", true)
  | 12 => ("PrayerTailings", "seen", "I", false)
  | _ => ("PrayerTailings", "seedNow", "J", false)
def tyX2 : Nat → FieldType := fun k => match k with
  | 0 => .array .int
  | 1 => .int
  | 2 => .object "PrayerTailings$Reader"
  | 3 => .object "PrayerTailings$Mine"
  | 4 => .object "PrayerTailings$Mine"
  | 5 => .array .int
  | 6 => .array (.object "PrayerTailings$Mine")
  | 7 => .int
  | 8 => .array (.object "PrayerTailings$Mine")
  | 9 => .int
  | 10 => .array .int
  | 11 => .array .int
  | 12 => .int
  | _ => .long
theorem nmX2 : ∀ a, a < 14 → ∀ b, b < 14 → a ≠ b → (TX2 a).2.1 ≠ (TX2 b).2.1 := by decide +kernel
theorem tyX2_ok : ∀ k, k < 14 → parseFieldDescriptor (TX2 k).2.2.1 = some (tyX2 k) := by decide +kernel
abbrev cX2_init : ByteArray := prog_1_method_1_code
def yX2_init : MethodName := ⟨RX2, "<init>", "()V"⟩
abbrev cX2_write : ByteArray := prog_1_method_2_code
def yX2_write : MethodName := ⟨RX2, "write", "(IJ)I"⟩
abbrev cX2_wipe : ByteArray := prog_1_method_3_code
def yX2_wipe : MethodName := ⟨RX2, "wipe", "()I"⟩
abbrev cX2_fault : ByteArray := prog_1_method_4_code
def yX2_fault : MethodName := ⟨RX2, "fault", "()I"⟩
abbrev cX2_mine : ByteArray := prog_1_method_5_code
def yX2_mine : MethodName := ⟨RX2, "mine", "()I"⟩
abbrev cX2_about : ByteArray := prog_1_method_6_code
def yX2_about : MethodName := ⟨RX2, "about", "(I)I"⟩
abbrev cX2_cell : ByteArray := prog_1_method_7_code
def yX2_cell : MethodName := ⟨RX2, "cell", "(II)I"⟩
abbrev cX2_monk : ByteArray := prog_1_method_8_code
def yX2_monk : MethodName := ⟨RX2, "monk", "(II)I"⟩
abbrev cX2_pray : ByteArray := prog_1_method_9_code
def yX2_pray : MethodName := ⟨RX2, "pray", "(I)I"⟩
abbrev cX2_oath : ByteArray := prog_1_method_10_code
def yX2_oath : MethodName := ⟨RX2, "oath", "(I)I"⟩
abbrev cX2_doubt : ByteArray := prog_1_method_11_code
def yX2_doubt : MethodName := ⟨RX2, "doubt", "(I)I"⟩
abbrev cX2_walk : ByteArray := prog_1_method_12_code
def yX2_walk : MethodName := ⟨RX2, "walk", "(II)I"⟩
abbrev cX2_day : ByteArray := prog_1_method_13_code
def yX2_day : MethodName := ⟨RX2, "day", "()I"⟩
abbrev cX2_undo : ByteArray := prog_1_method_14_code
def yX2_undo : MethodName := ⟨RX2, "undo", "()I"⟩
abbrev cX2_falls : ByteArray := prog_1_method_15_code
def yX2_falls : MethodName := ⟨RX2, "falls", "(I)I"⟩
abbrev cX2_psalm : ByteArray := prog_1_method_16_code
def yX2_psalm : MethodName := ⟨RX2, "psalm", "(II)I"⟩
abbrev cX2_best : ByteArray := prog_1_method_17_code
def yX2_best : MethodName := ⟨RX2, "best", "(I)I"⟩
abbrev cX2_bestAt : ByteArray := prog_1_method_18_code
def yX2_bestAt : MethodName := ⟨RX2, "bestAt", "(II)I"⟩
abbrev cX2_oaths : ByteArray := prog_1_method_19_code
def yX2_oaths : MethodName := ⟨RX2, "oaths", "()I"⟩
abbrev cX2_down : ByteArray := prog_1_method_20_code
def yX2_down : MethodName := ⟨RX2, "down", "(I)I"⟩
abbrev cX2_see : ByteArray := prog_1_method_21_code
def yX2_see : MethodName := ⟨RX2, "see", "(II)I"⟩
abbrev cX2_unsee : ByteArray := prog_1_method_22_code
def yX2_unsee : MethodName := ⟨RX2, "unsee", "()I"⟩
abbrev cX2_silent : ByteArray := prog_1_method_23_code
def yX2_silent : MethodName := ⟨RX2, "silent", "(I)I"⟩
abbrev cX2_chance : ByteArray := prog_1_method_24_code
def yX2_chance : MethodName := ⟨RX2, "chance", "(IIZ)I"⟩
abbrev cX2_seed : ByteArray := prog_1_method_25_code
def yX2_seed : MethodName := ⟨RX2, "seed", "(J)J"⟩
abbrev cX2_month : ByteArray := prog_1_method_26_code
def yX2_month : MethodName := ⟨RX2, "month", "(II)I"⟩
abbrev cX2_keep : ByteArray := prog_1_method_27_code
def yX2_keep : MethodName := ⟨RX2, "keep", "(I)I"⟩
abbrev cX2_again : ByteArray := prog_1_method_28_code
def yX2_again : MethodName := ⟨RX2, "again", "(I)I"⟩
abbrev cX2_isCell : ByteArray := prog_1_method_29_code
def yX2_isCell : MethodName := ⟨RX2, "isCell", "(I)Z"⟩
abbrev cX2_has : ByteArray := prog_1_method_30_code
def yX2_has : MethodName := ⟨RX2, "has", "(II)Z"⟩
abbrev cX2_at : ByteArray := prog_1_method_31_code
def yX2_at : MethodName := ⟨RX2, "at", "([II)I"⟩
abbrev cX2_put : ByteArray := prog_1_method_32_code
def yX2_put : MethodName := ⟨RX2, "put", "([III)V"⟩
abbrev cX2_readText : ByteArray := prog_1_method_33_code
def yX2_readText : MethodName := ⟨RX2, "readText", "()I"⟩
abbrev cX2_remember : ByteArray := prog_1_method_34_code
def yX2_remember : MethodName := ⟨RX2, "remember", "()V"⟩
abbrev cX2_breakOf : ByteArray := prog_1_method_35_code
def yX2_breakOf : MethodName := ⟨RX2, "breakOf", "(I)I"⟩
abbrev cX2_bestCode : ByteArray := prog_1_method_36_code
def yX2_bestCode : MethodName := ⟨RX2, "bestCode", "(I)I"⟩
abbrev cX2_setSong : ByteArray := prog_1_method_37_code
def yX2_setSong : MethodName := ⟨RX2, "setSong", "(II)V"⟩
abbrev cX2_figureOf : ByteArray := prog_1_method_38_code
def yX2_figureOf : MethodName := ⟨RX2, "figureOf", "(III)I"⟩
abbrev cX2_isSeenBy : ByteArray := prog_1_method_39_code
def yX2_isSeenBy : MethodName := ⟨RX2, "isSeenBy", "(I)Z"⟩
abbrev cX2_weightOf : ByteArray := prog_1_method_40_code
def yX2_weightOf : MethodName := ⟨RX2, "weightOf", "(III)I"⟩
abbrev cX2_commonDivisor : ByteArray := prog_1_method_41_code
def yX2_commonDivisor : MethodName := ⟨RX2, "commonDivisor", "(II)I"⟩
abbrev cX2_nextTenth : ByteArray := prog_1_method_42_code
def yX2_nextTenth : MethodName := ⟨RX2, "nextTenth", "()I"⟩
def RX3 : String := "PrayerTailingsModel"
def TX3 : u_T := fun k => match k with
  | 0 => ("PrayerTailingsModel", "thrown", "I", false)
  | 1 => ("PrayerTailingsModel", "text", "[I", true)
  | 2 => ("PrayerTailingsModel", "textSize", "I", false)
  | 3 => ("PrayerTailingsModel", "place", "I", false)
  | 4 => ("PrayerTailingsModel", "hold", "I", false)
  | 5 => ("PrayerTailingsModel", "monks", "I", false)
  | 6 => ("PrayerTailingsModel", "sect", "[I", true)
  | 7 => ("PrayerTailingsModel", "page", "[I", true)
  | 8 => ("PrayerTailingsModel", "readHold", "I", false)
  | 9 => ("PrayerTailingsModel", "readMonks", "I", false)
  | 10 => ("PrayerTailingsModel", "readCells", "I", false)
  | 11 => ("PrayerTailingsModel", "readTold", "I", false)
  | 12 => ("PrayerTailingsModel", "readPage", "[I", true)
  | 13 => ("PrayerTailingsModel", "readSect", "[I", true)
  | 14 => ("PrayerTailingsModel", "seed", "J", false)
  | 15 => ("PrayerTailingsModel", "book", "[I", true)
  | 16 => ("PrayerTailingsModel", "acts", "I", false)
  | 17 => ("PrayerTailingsModel", "kept", "[I", true)
  | 18 => ("PrayerTailingsModel", "isKept", "[Z", true)
  | 19 => ("PrayerTailingsModel", "seen", "I", false)
  | 20 => ("PrayerTailingsModel", "seenCell", "[I", true)
  | 21 => ("PrayerTailingsModel", "seenBy", "[I", true)
  | 22 => ("PrayerTailingsModel", "tried", "[I", true)
  | _ => ("PrayerTailingsModel", "bestRow", "I", false)
def tyX3 : Nat → FieldType := fun k => match k with
  | 0 => .int
  | 1 => .array .int
  | 2 => .int
  | 3 => .int
  | 4 => .int
  | 5 => .int
  | 6 => .array .int
  | 7 => .array .int
  | 8 => .int
  | 9 => .int
  | 10 => .int
  | 11 => .int
  | 12 => .array .int
  | 13 => .array .int
  | 14 => .long
  | 15 => .array .int
  | 16 => .int
  | 17 => .array .int
  | 18 => .array .boolean
  | 19 => .int
  | 20 => .array .int
  | 21 => .array .int
  | 22 => .array .int
  | _ => .int
theorem nmX3 : ∀ a, a < 24 → ∀ b, b < 24 → a ≠ b → (TX3 a).2.1 ≠ (TX3 b).2.1 := by decide +kernel
theorem tyX3_ok : ∀ k, k < 24 → parseFieldDescriptor (TX3 k).2.2.1 = some (tyX3 k) := by decide +kernel
abbrev cX3_init : ByteArray := prog_5_method_1_code
def yX3_init : MethodName := ⟨RX3, "<init>", "()V"⟩
abbrev cX3_in : ByteArray := prog_5_method_3_code
def yX3_in : MethodName := ⟨RX3, "in", "(JJJ)Z"⟩
abbrev cX3_has : ByteArray := prog_5_method_4_code
def yX3_has : MethodName := ⟨RX3, "has", "(II)Z"⟩
abbrev cX3_noMonk : ByteArray := prog_5_method_5_code
def yX3_noMonk : MethodName := ⟨RX3, "noMonk", "(I)Z"⟩
abbrev cX3_noCell : ByteArray := prog_5_method_6_code
def yX3_noCell : MethodName := ⟨RX3, "noCell", "(I)Z"⟩
abbrev cX3_write : ByteArray := prog_5_method_7_code
def yX3_write : MethodName := ⟨RX3, "write", "(IJ)I"⟩
abbrev cX3_wipe : ByteArray := prog_5_method_8_code
def yX3_wipe : MethodName := ⟨RX3, "wipe", "()I"⟩
abbrev cX3_figure : ByteArray := prog_5_method_9_code
def yX3_figure : MethodName := ⟨RX3, "figure", "(II)I"⟩
abbrev cX3_readCellOf : ByteArray := prog_5_method_10_code
def yX3_readCellOf : MethodName := ⟨RX3, "readCellOf", "(I)I"⟩
abbrev cX3_readCell : ByteArray := prog_5_method_11_code
def yX3_readCell : MethodName := ⟨RX3, "readCell", "()Z"⟩
abbrev cX3_readMonk : ByteArray := prog_5_method_12_code
def yX3_readMonk : MethodName := ⟨RX3, "readMonk", "()Z"⟩
abbrev cX3_readPart : ByteArray := prog_5_method_13_code
def yX3_readPart : MethodName := ⟨RX3, "readPart", "()Z"⟩
abbrev cX3_readMine : ByteArray := prog_5_method_14_code
def yX3_readMine : MethodName := ⟨RX3, "readMine", "()I"⟩
abbrev cX3_fault : ByteArray := prog_5_method_15_code
def yX3_fault : MethodName := ⟨RX3, "fault", "()I"⟩
abbrev cX3_mine : ByteArray := prog_5_method_16_code
def yX3_mine : MethodName := ⟨RX3, "mine", "()I"⟩
abbrev cX3_areNext : ByteArray := prog_5_method_17_code
def yX3_areNext : MethodName := ⟨RX3, "areNext", "(II)Z"⟩
abbrev cX3_thereOf : ByteArray := prog_5_method_18_code
def yX3_thereOf : MethodName := ⟨RX3, "thereOf", "(I)I"⟩
abbrev cX3_about : ByteArray := prog_5_method_19_code
def yX3_about : MethodName := ⟨RX3, "about", "(I)I"⟩
abbrev cX3_cell : ByteArray := prog_5_method_20_code
def yX3_cell : MethodName := ⟨RX3, "cell", "(II)I"⟩
abbrev cX3_timesOf : ByteArray := prog_5_method_21_code
def yX3_timesOf : MethodName := ⟨RX3, "timesOf", "([II)I"⟩
abbrev cX3_monk : ByteArray := prog_5_method_22_code
def yX3_monk : MethodName := ⟨RX3, "monk", "(II)I"⟩
abbrev cX3_note : ByteArray := prog_5_method_23_code
def yX3_note : MethodName := ⟨RX3, "note", "()V"⟩
abbrev cX3_loosen : ByteArray := prog_5_method_24_code
def yX3_loosen : MethodName := ⟨RX3, "loosen", "([III)V"⟩
abbrev cX3_fall : ByteArray := prog_5_method_25_code
def yX3_fall : MethodName := ⟨RX3, "fall", "([I)I"⟩
abbrev cX3_goPray : ByteArray := prog_5_method_26_code
def yX3_goPray : MethodName := ⟨RX3, "goPray", "([II)I"⟩
abbrev cX3_goDay : ByteArray := prog_5_method_27_code
def yX3_goDay : MethodName := ⟨RX3, "goDay", "([I)I"⟩
abbrev cX3_noOne : ByteArray := prog_5_method_28_code
def yX3_noOne : MethodName := ⟨RX3, "noOne", "(I)I"⟩
abbrev cX3_pray : ByteArray := prog_5_method_29_code
def yX3_pray : MethodName := ⟨RX3, "pray", "(I)I"⟩
abbrev cX3_oath : ByteArray := prog_5_method_30_code
def yX3_oath : MethodName := ⟨RX3, "oath", "(I)I"⟩
abbrev cX3_doubt : ByteArray := prog_5_method_31_code
def yX3_doubt : MethodName := ⟨RX3, "doubt", "(I)I"⟩
abbrev cX3_walk : ByteArray := prog_5_method_32_code
def yX3_walk : MethodName := ⟨RX3, "walk", "(II)I"⟩
abbrev cX3_day : ByteArray := prog_5_method_33_code
def yX3_day : MethodName := ⟨RX3, "day", "()I"⟩
abbrev cX3_undo : ByteArray := prog_5_method_34_code
def yX3_undo : MethodName := ⟨RX3, "undo", "()I"⟩
abbrev cX3_begin : ByteArray := prog_5_method_35_code
def yX3_begin : MethodName := ⟨RX3, "begin", "()V"⟩
abbrev cX3_falls : ByteArray := prog_5_method_36_code
def yX3_falls : MethodName := ⟨RX3, "falls", "(I)I"⟩
abbrev cX3_ten : ByteArray := prog_5_method_37_code
def yX3_ten : MethodName := ⟨RX3, "ten", "(I)I"⟩
abbrev cX3_goPsalm : ByteArray := prog_5_method_38_code
def yX3_goPsalm : MethodName := ⟨RX3, "goPsalm", "(II)I"⟩
abbrev cX3_psalm : ByteArray := prog_5_method_39_code
def yX3_psalm : MethodName := ⟨RX3, "psalm", "(II)I"⟩
abbrev cX3_findBest : ByteArray := prog_5_method_40_code
def yX3_findBest : MethodName := ⟨RX3, "findBest", "(I)I"⟩
abbrev cX3_best : ByteArray := prog_5_method_41_code
def yX3_best : MethodName := ⟨RX3, "best", "(I)I"⟩
abbrev cX3_bestAt : ByteArray := prog_5_method_42_code
def yX3_bestAt : MethodName := ⟨RX3, "bestAt", "(II)I"⟩
abbrev cX3_oaths : ByteArray := prog_5_method_43_code
def yX3_oaths : MethodName := ⟨RX3, "oaths", "()I"⟩
abbrev cX3_prayAll : ByteArray := prog_5_method_44_code
def yX3_prayAll : MethodName := ⟨RX3, "prayAll", "([II)V"⟩
abbrev cX3_down : ByteArray := prog_5_method_45_code
def yX3_down : MethodName := ⟨RX3, "down", "(I)I"⟩
abbrev cX3_see : ByteArray := prog_5_method_46_code
def yX3_see : MethodName := ⟨RX3, "see", "(II)I"⟩
abbrev cX3_unsee : ByteArray := prog_5_method_47_code
def yX3_unsee : MethodName := ⟨RX3, "unsee", "()I"⟩
abbrev cX3_silent : ByteArray := prog_5_method_48_code
def yX3_silent : MethodName := ⟨RX3, "silent", "(I)I"⟩
abbrev cX3_divisor : ByteArray := prog_5_method_49_code
def yX3_divisor : MethodName := ⟨RX3, "divisor", "(II)I"⟩
abbrev cX3_chance : ByteArray := prog_5_method_50_code
def yX3_chance : MethodName := ⟨RX3, "chance", "(IIZ)I"⟩
abbrev cX3_seed : ByteArray := prog_5_method_51_code
def yX3_seed : MethodName := ⟨RX3, "seed", "(J)J"⟩
abbrev cX3_month : ByteArray := prog_5_method_52_code
def yX3_month : MethodName := ⟨RX3, "month", "(II)I"⟩
abbrev cX3_keep : ByteArray := prog_5_method_53_code
def yX3_keep : MethodName := ⟨RX3, "keep", "(I)I"⟩
abbrev cX3_again : ByteArray := prog_5_method_54_code
def yX3_again : MethodName := ⟨RX3, "again", "(I)I"⟩
def RJ6 : String := "java/lang/Integer"
abbrev cJ6_bitCount_0f7a4 : ByteArray := prog_6_method_49_code
def yJ6_bitCount_0f7a4 : MethodName := ⟨RJ6, "bitCount", "(I)I"⟩
def RJ9 : String := "java/lang/Math"
abbrev cJ9_max_7cf53 : ByteArray := prog_7_method_65_code
def yJ9_max_7cf53 : MethodName := ⟨RJ9, "max", "(II)I"⟩
abbrev cJ9_min_7cf53 : ByteArray := prog_7_method_69_code
def yJ9_min_7cf53 : MethodName := ⟨RJ9, "min", "(II)I"⟩
def RJ10 : String := "java/lang/System"
def RL : String := "PrayerTailingsLaw"
abbrev cL_law : ByteArray := code
def yL_law : MethodName := ⟨RL, "law", "([I)Z"⟩
abbrev vwCl : List vw_C := [(RX0, TX0, 12), (RX1, TX1, 4), (RX2, TX2, 14), (RX3, TX3, 24)]

/-- the words of the tables that every state bears on -/
def xW : List Cond := lw_tbl.filter goodWord
theorem xw_in {w : Cond} (i : Nat) (h : tables_1[i]? = some w) (hg : goodWord w = true) : w ∈ xW := List.mem_filter.mpr ⟨List.mem_append_right _ (List.mem_of_getElem? h), hg⟩
theorem xw_pr {w : Cond} (i : Nat) (h : (k2_sels lw_privs)[i]? = some w) (hg : goodWord w = true) : w ∈ xW := List.mem_filter.mpr ⟨List.mem_append_left _ (List.mem_of_getElem? h), hg⟩
def xnest : List Cond := [.methodLinkNest RX2 15 yX1_init RX2, .methodLinkNest RX1 11 yX0_init RX2, .methodLinkNest RX2 22 yX0_init RX2, .methodLinkNest RX0 71 yX2_put RX2, .methodLinkNest RX1 81 yX2_isCell RX2, .methodLinkNest RX1 84 yX2_has RX2, .methodLinkNest RX1 87 yX2_put RX2, .methodLinkNest RX0 59 yX2_has RX2, .methodLinkNest RX0 67 yX2_at RX2, .fieldLinkNest RX0 83 RX2 "NEAR" "[I" RX2]
theorem xin0 : ∀ w ∈ u_ws RX0 TX0 12, w ∈ xW := by
  intro w hw
  obtain ⟨k, hk, rfl⟩ := List.mem_map.mp hw
  have hk := List.mem_range.mp hk
  match k, hk with
  | 0, _ => exact xw_in 57 (by decide +kernel) (by decide +kernel)
  | 1, _ => exact xw_in 59 (by decide +kernel) (by decide +kernel)
  | 2, _ => exact xw_in 61 (by decide +kernel) (by decide +kernel)
  | 3, _ => exact xw_in 63 (by decide +kernel) (by decide +kernel)
  | 4, _ => exact xw_in 65 (by decide +kernel) (by decide +kernel)
  | 5, _ => exact xw_in 67 (by decide +kernel) (by decide +kernel)
  | 6, _ => exact xw_in 69 (by decide +kernel) (by decide +kernel)
  | 7, _ => exact xw_in 71 (by decide +kernel) (by decide +kernel)
  | 8, _ => exact xw_in 73 (by decide +kernel) (by decide +kernel)
  | 9, _ => exact xw_in 75 (by decide +kernel) (by decide +kernel)
  | 10, _ => exact xw_in 77 (by decide +kernel) (by decide +kernel)
  | 11, _ => exact xw_in 79 (by decide +kernel) (by decide +kernel)
  | k + 12, h => exact absurd h (by omega)
theorem xin1 : ∀ w ∈ u_ws RX1 TX1 4, w ∈ xW := by
  intro w hw
  obtain ⟨k, hk, rfl⟩ := List.mem_map.mp hw
  have hk := List.mem_range.mp hk
  match k, hk with
  | 0, _ => exact xw_in 88 (by decide +kernel) (by decide +kernel)
  | 1, _ => exact xw_in 90 (by decide +kernel) (by decide +kernel)
  | 2, _ => exact xw_in 92 (by decide +kernel) (by decide +kernel)
  | 3, _ => exact xw_in 94 (by decide +kernel) (by decide +kernel)
  | k + 4, h => exact absurd h (by omega)
theorem xin2 : ∀ w ∈ u_ws RX2 TX2 14, w ∈ xW := by
  intro w hw
  obtain ⟨k, hk, rfl⟩ := List.mem_map.mp hw
  have hk := List.mem_range.mp hk
  match k, hk with
  | 0, _ => exact xw_in 114 (by decide +kernel) (by decide +kernel)
  | 1, _ => exact xw_in 116 (by decide +kernel) (by decide +kernel)
  | 2, _ => exact xw_in 118 (by decide +kernel) (by decide +kernel)
  | 3, _ => exact xw_in 120 (by decide +kernel) (by decide +kernel)
  | 4, _ => exact xw_in 122 (by decide +kernel) (by decide +kernel)
  | 5, _ => exact xw_in 124 (by decide +kernel) (by decide +kernel)
  | 6, _ => exact xw_in 126 (by decide +kernel) (by decide +kernel)
  | 7, _ => exact xw_in 128 (by decide +kernel) (by decide +kernel)
  | 8, _ => exact xw_in 130 (by decide +kernel) (by decide +kernel)
  | 9, _ => exact xw_in 132 (by decide +kernel) (by decide +kernel)
  | 10, _ => exact xw_in 134 (by decide +kernel) (by decide +kernel)
  | 11, _ => exact xw_in 136 (by decide +kernel) (by decide +kernel)
  | 12, _ => exact xw_in 138 (by decide +kernel) (by decide +kernel)
  | 13, _ => exact xw_in 140 (by decide +kernel) (by decide +kernel)
  | k + 14, h => exact absurd h (by omega)
theorem xin3 : ∀ w ∈ u_ws RX3 TX3 24, w ∈ xW := by
  intro w hw
  obtain ⟨k, hk, rfl⟩ := List.mem_map.mp hw
  have hk := List.mem_range.mp hk
  match k, hk with
  | 0, _ => exact xw_in 495 (by decide +kernel) (by decide +kernel)
  | 1, _ => exact xw_in 497 (by decide +kernel) (by decide +kernel)
  | 2, _ => exact xw_in 499 (by decide +kernel) (by decide +kernel)
  | 3, _ => exact xw_in 501 (by decide +kernel) (by decide +kernel)
  | 4, _ => exact xw_in 503 (by decide +kernel) (by decide +kernel)
  | 5, _ => exact xw_in 505 (by decide +kernel) (by decide +kernel)
  | 6, _ => exact xw_in 507 (by decide +kernel) (by decide +kernel)
  | 7, _ => exact xw_in 509 (by decide +kernel) (by decide +kernel)
  | 8, _ => exact xw_in 511 (by decide +kernel) (by decide +kernel)
  | 9, _ => exact xw_in 513 (by decide +kernel) (by decide +kernel)
  | 10, _ => exact xw_in 515 (by decide +kernel) (by decide +kernel)
  | 11, _ => exact xw_in 517 (by decide +kernel) (by decide +kernel)
  | 12, _ => exact xw_in 519 (by decide +kernel) (by decide +kernel)
  | 13, _ => exact xw_in 521 (by decide +kernel) (by decide +kernel)
  | 14, _ => exact xw_in 523 (by decide +kernel) (by decide +kernel)
  | 15, _ => exact xw_in 525 (by decide +kernel) (by decide +kernel)
  | 16, _ => exact xw_in 527 (by decide +kernel) (by decide +kernel)
  | 17, _ => exact xw_in 529 (by decide +kernel) (by decide +kernel)
  | 18, _ => exact xw_in 531 (by decide +kernel) (by decide +kernel)
  | 19, _ => exact xw_in 533 (by decide +kernel) (by decide +kernel)
  | 20, _ => exact xw_in 535 (by decide +kernel) (by decide +kernel)
  | 21, _ => exact xw_in 537 (by decide +kernel) (by decide +kernel)
  | 22, _ => exact xw_in 539 (by decide +kernel) (by decide +kernel)
  | 23, _ => exact xw_in 541 (by decide +kernel) (by decide +kernel)
  | k + 24, h => exact absurd h (by omega)
end
section
theorem e_X0_init_0 : decode cX0_init 0 = .ok (.aload_n 0, 1) ∧ 0 + 1 = 1 := by decide +kernel
theorem e_X0_init_1 : decode cX0_init 1 = .ok (.invokespecial 3, 3) ∧ 1 + 3 = 4 := by decide +kernel
theorem e_X0_init_4 : decode cX0_init 4 = .ok (.aload_n 0, 1) ∧ 4 + 1 = 5 := by decide +kernel
theorem e_X0_init_5 : decode cX0_init 5 = .ok (.bipush 12, 2) ∧ 5 + 2 = 7 := by decide +kernel
theorem e_X0_init_7 : decode cX0_init 7 = .ok (.newarray .int, 2) ∧ 7 + 2 = 9 := by decide +kernel
theorem e_X0_init_9 : decode cX0_init 9 = .ok (.putfield 9, 3) ∧ 9 + 3 = 12 := by decide +kernel
theorem e_X0_init_12 : decode cX0_init 12 = .ok (.aload_n 0, 1) ∧ 12 + 1 = 13 := by decide +kernel
theorem e_X0_init_13 : decode cX0_init 13 = .ok (.bipush 12, 2) ∧ 13 + 2 = 15 := by decide +kernel
theorem e_X0_init_15 : decode cX0_init 15 = .ok (.newarray .int, 2) ∧ 15 + 2 = 17 := by decide +kernel
theorem e_X0_init_17 : decode cX0_init 17 = .ok (.putfield 15, 3) ∧ 17 + 3 = 20 := by decide +kernel
theorem e_X0_init_20 : decode cX0_init 20 = .ok (.aload_n 0, 1) ∧ 20 + 1 = 21 := by decide +kernel
theorem e_X0_init_21 : decode cX0_init 21 = .ok (.bipush 12, 2) ∧ 21 + 2 = 23 := by decide +kernel
theorem e_X0_init_23 : decode cX0_init 23 = .ok (.newarray .int, 2) ∧ 23 + 2 = 25 := by decide +kernel
theorem e_X0_init_25 : decode cX0_init 25 = .ok (.putfield 18, 3) ∧ 25 + 3 = 28 := by decide +kernel
theorem e_X0_init_28 : decode cX0_init 28 = .ok (.aload_n 0, 1) ∧ 28 + 1 = 29 := by decide +kernel
theorem e_X0_init_29 : decode cX0_init 29 = .ok (.bipush 12, 2) ∧ 29 + 2 = 31 := by decide +kernel
theorem e_X0_init_31 : decode cX0_init 31 = .ok (.newarray .int, 2) ∧ 31 + 2 = 33 := by decide +kernel
theorem e_X0_init_33 : decode cX0_init 33 = .ok (.putfield 21, 3) ∧ 33 + 3 = 36 := by decide +kernel
theorem e_X0_init_36 : decode cX0_init 36 = .ok (.aload_n 0, 1) ∧ 36 + 1 = 37 := by decide +kernel
theorem e_X0_init_37 : decode cX0_init 37 = .ok (.iconst 4, 1) ∧ 37 + 1 = 38 := by decide +kernel
theorem e_X0_init_38 : decode cX0_init 38 = .ok (.newarray .int, 2) ∧ 38 + 2 = 40 := by decide +kernel
theorem e_X0_init_40 : decode cX0_init 40 = .ok (.putfield 24, 3) ∧ 40 + 3 = 43 := by decide +kernel
theorem e_X0_init_43 : decode cX0_init 43 = .ok (.aload_n 0, 1) ∧ 43 + 1 = 44 := by decide +kernel
theorem e_X0_init_44 : decode cX0_init 44 = .ok (.iconst 1, 1) ∧ 44 + 1 = 45 := by decide +kernel
theorem e_X0_init_45 : decode cX0_init 45 = .ok (.putfield 27, 3) ∧ 45 + 3 = 48 := by decide +kernel
theorem e_X0_init_48 : decode cX0_init 48 = .ok (.return_, 1) := by decide +kernel
theorem e_X0_clear_0 : decode cX0_clear 0 = .ok (.iconst 0, 1) ∧ 0 + 1 = 1 := by decide +kernel
theorem e_X0_clear_1 : decode cX0_clear 1 = .ok (.istore_n 1, 1) ∧ 1 + 1 = 2 := by decide +kernel
theorem e_X0_clear_2 : decode cX0_clear 2 = .ok (.iload_n 1, 1) ∧ 2 + 1 = 3 := by decide +kernel
theorem e_X0_clear_3 : decode cX0_clear 3 = .ok (.bipush 12, 2) ∧ 3 + 2 = 5 := by decide +kernel
theorem e_X0_clear_5 : decode cX0_clear 5 = .ok (.if_icmp .ge 14, 3) ∧ 5 + 3 = 8 ∧ ((5 : Nat) : Int) + (14) = ((19 : Nat) : Int) := by decide +kernel
theorem e_X0_clear_8 : decode cX0_clear 8 = .ok (.aload_n 0, 1) ∧ 8 + 1 = 9 := by decide +kernel
theorem e_X0_clear_9 : decode cX0_clear 9 = .ok (.iload_n 1, 1) ∧ 9 + 1 = 10 := by decide +kernel
theorem e_X0_clear_10 : decode cX0_clear 10 = .ok (.invokevirtual 31, 3) ∧ 10 + 3 = 13 := by decide +kernel
theorem e_X0_clear_13 : decode cX0_clear 13 = .ok (.iinc 1 1, 3) ∧ 13 + 3 = 16 := by decide +kernel
theorem e_X0_clear_16 : decode cX0_clear 16 = .ok (.goto (-14), 3) ∧ 16 + 3 = 19 ∧ ((16 : Nat) : Int) + (-14) = ((2 : Nat) : Int) := by decide +kernel
theorem e_X0_clear_19 : decode cX0_clear 19 = .ok (.aload_n 0, 1) ∧ 19 + 1 = 20 := by decide +kernel
theorem e_X0_clear_20 : decode cX0_clear 20 = .ok (.iconst 1, 1) ∧ 20 + 1 = 21 := by decide +kernel
theorem e_X0_clear_21 : decode cX0_clear 21 = .ok (.putfield 27, 3) ∧ 21 + 3 = 24 := by decide +kernel
theorem e_X0_clear_24 : decode cX0_clear 24 = .ok (.aload_n 0, 1) ∧ 24 + 1 = 25 := by decide +kernel
theorem e_X0_clear_25 : decode cX0_clear 25 = .ok (.iconst 0, 1) ∧ 25 + 1 = 26 := by decide +kernel
theorem e_X0_clear_26 : decode cX0_clear 26 = .ok (.putfield 35, 3) ∧ 26 + 3 = 29 := by decide +kernel
theorem e_X0_clear_29 : decode cX0_clear 29 = .ok (.aload_n 0, 1) ∧ 29 + 1 = 30 := by decide +kernel
theorem e_X0_clear_30 : decode cX0_clear 30 = .ok (.iconst 0, 1) ∧ 30 + 1 = 31 := by decide +kernel
theorem e_X0_clear_31 : decode cX0_clear 31 = .ok (.putfield 38, 3) ∧ 31 + 3 = 34 := by decide +kernel
theorem e_X0_clear_34 : decode cX0_clear 34 = .ok (.aload_n 0, 1) ∧ 34 + 1 = 35 := by decide +kernel
theorem e_X0_clear_35 : decode cX0_clear 35 = .ok (.iconst 0, 1) ∧ 35 + 1 = 36 := by decide +kernel
theorem e_X0_clear_36 : decode cX0_clear 36 = .ok (.putfield 41, 3) ∧ 36 + 3 = 39 := by decide +kernel
theorem e_X0_clear_39 : decode cX0_clear 39 = .ok (.aload_n 0, 1) ∧ 39 + 1 = 40 := by decide +kernel
theorem e_X0_clear_40 : decode cX0_clear 40 = .ok (.iconst 0, 1) ∧ 40 + 1 = 41 := by decide +kernel
theorem e_X0_clear_41 : decode cX0_clear 41 = .ok (.putfield 44, 3) ∧ 41 + 3 = 44 := by decide +kernel
theorem e_X0_clear_44 : decode cX0_clear 44 = .ok (.aload_n 0, 1) ∧ 44 + 1 = 45 := by decide +kernel
theorem e_X0_clear_45 : decode cX0_clear 45 = .ok (.iconst 0, 1) ∧ 45 + 1 = 46 := by decide +kernel
theorem e_X0_clear_46 : decode cX0_clear 46 = .ok (.putfield 47, 3) ∧ 46 + 3 = 49 := by decide +kernel
theorem e_X0_clear_49 : decode cX0_clear 49 = .ok (.aload_n 0, 1) ∧ 49 + 1 = 50 := by decide +kernel
theorem e_X0_clear_50 : decode cX0_clear 50 = .ok (.iconst 0, 1) ∧ 50 + 1 = 51 := by decide +kernel
theorem e_X0_clear_51 : decode cX0_clear 51 = .ok (.putfield 50, 3) ∧ 51 + 3 = 54 := by decide +kernel
theorem e_X0_clear_54 : decode cX0_clear 54 = .ok (.return_, 1) := by decide +kernel
theorem e_X0_take_0 : decode cX0_take 0 = .ok (.aload_n 1, 1) ∧ 0 + 1 = 1 := by decide +kernel
theorem e_X0_take_1 : decode cX0_take 1 = .ok (.ifnonnull 4, 3) ∧ 1 + 3 = 4 ∧ ((1 : Nat) : Int) + (4) = ((5 : Nat) : Int) := by decide +kernel
theorem e_X0_take_4 : decode cX0_take 4 = .ok (.return_, 1) := by decide +kernel
theorem e_X0_take_5 : decode cX0_take 5 = .ok (.aload_n 1, 1) ∧ 5 + 1 = 6 := by decide +kernel
theorem e_X0_take_6 : decode cX0_take 6 = .ok (.getfield 9, 3) ∧ 6 + 3 = 9 := by decide +kernel
theorem e_X0_take_9 : decode cX0_take 9 = .ok (.iconst 0, 1) ∧ 9 + 1 = 10 := by decide +kernel
theorem e_X0_take_10 : decode cX0_take 10 = .ok (.aload_n 0, 1) ∧ 10 + 1 = 11 := by decide +kernel
theorem e_X0_take_11 : decode cX0_take 11 = .ok (.getfield 9, 3) ∧ 11 + 3 = 14 := by decide +kernel
theorem e_X0_take_14 : decode cX0_take 14 = .ok (.iconst 0, 1) ∧ 14 + 1 = 15 := by decide +kernel
theorem e_X0_take_15 : decode cX0_take 15 = .ok (.bipush 12, 2) ∧ 15 + 2 = 17 := by decide +kernel
theorem e_X0_take_17 : decode cX0_take 17 = .ok (.invokestatic 53, 3) ∧ 17 + 3 = 20 := by decide +kernel
theorem e_X0_take_20 : decode cX0_take 20 = .ok (.aload_n 1, 1) ∧ 20 + 1 = 21 := by decide +kernel
theorem e_X0_take_21 : decode cX0_take 21 = .ok (.getfield 15, 3) ∧ 21 + 3 = 24 := by decide +kernel
theorem e_X0_take_24 : decode cX0_take 24 = .ok (.iconst 0, 1) ∧ 24 + 1 = 25 := by decide +kernel
theorem e_X0_take_25 : decode cX0_take 25 = .ok (.aload_n 0, 1) ∧ 25 + 1 = 26 := by decide +kernel
theorem e_X0_take_26 : decode cX0_take 26 = .ok (.getfield 15, 3) ∧ 26 + 3 = 29 := by decide +kernel
theorem e_X0_take_29 : decode cX0_take 29 = .ok (.iconst 0, 1) ∧ 29 + 1 = 30 := by decide +kernel
theorem e_X0_take_30 : decode cX0_take 30 = .ok (.bipush 12, 2) ∧ 30 + 2 = 32 := by decide +kernel
theorem e_X0_take_32 : decode cX0_take 32 = .ok (.invokestatic 53, 3) ∧ 32 + 3 = 35 := by decide +kernel
theorem e_X0_take_35 : decode cX0_take 35 = .ok (.aload_n 1, 1) ∧ 35 + 1 = 36 := by decide +kernel
theorem e_X0_take_36 : decode cX0_take 36 = .ok (.getfield 18, 3) ∧ 36 + 3 = 39 := by decide +kernel
theorem e_X0_take_39 : decode cX0_take 39 = .ok (.iconst 0, 1) ∧ 39 + 1 = 40 := by decide +kernel
theorem e_X0_take_40 : decode cX0_take 40 = .ok (.aload_n 0, 1) ∧ 40 + 1 = 41 := by decide +kernel
theorem e_X0_take_41 : decode cX0_take 41 = .ok (.getfield 18, 3) ∧ 41 + 3 = 44 := by decide +kernel
theorem e_X0_take_44 : decode cX0_take 44 = .ok (.iconst 0, 1) ∧ 44 + 1 = 45 := by decide +kernel
theorem e_X0_take_45 : decode cX0_take 45 = .ok (.bipush 12, 2) ∧ 45 + 2 = 47 := by decide +kernel
theorem e_X0_take_47 : decode cX0_take 47 = .ok (.invokestatic 53, 3) ∧ 47 + 3 = 50 := by decide +kernel
theorem e_X0_take_50 : decode cX0_take 50 = .ok (.aload_n 1, 1) ∧ 50 + 1 = 51 := by decide +kernel
theorem e_X0_take_51 : decode cX0_take 51 = .ok (.getfield 21, 3) ∧ 51 + 3 = 54 := by decide +kernel
theorem e_X0_take_54 : decode cX0_take 54 = .ok (.iconst 0, 1) ∧ 54 + 1 = 55 := by decide +kernel
theorem e_X0_take_55 : decode cX0_take 55 = .ok (.aload_n 0, 1) ∧ 55 + 1 = 56 := by decide +kernel
theorem e_X0_take_56 : decode cX0_take 56 = .ok (.getfield 21, 3) ∧ 56 + 3 = 59 := by decide +kernel
theorem e_X0_take_59 : decode cX0_take 59 = .ok (.iconst 0, 1) ∧ 59 + 1 = 60 := by decide +kernel
theorem e_X0_take_60 : decode cX0_take 60 = .ok (.bipush 12, 2) ∧ 60 + 2 = 62 := by decide +kernel
theorem e_X0_take_62 : decode cX0_take 62 = .ok (.invokestatic 53, 3) ∧ 62 + 3 = 65 := by decide +kernel
theorem e_X0_take_65 : decode cX0_take 65 = .ok (.aload_n 1, 1) ∧ 65 + 1 = 66 := by decide +kernel
theorem e_X0_take_66 : decode cX0_take 66 = .ok (.getfield 24, 3) ∧ 66 + 3 = 69 := by decide +kernel
theorem e_X0_take_69 : decode cX0_take 69 = .ok (.iconst 0, 1) ∧ 69 + 1 = 70 := by decide +kernel
theorem e_X0_take_70 : decode cX0_take 70 = .ok (.aload_n 0, 1) ∧ 70 + 1 = 71 := by decide +kernel
theorem e_X0_take_71 : decode cX0_take 71 = .ok (.getfield 24, 3) ∧ 71 + 3 = 74 := by decide +kernel
theorem e_X0_take_74 : decode cX0_take 74 = .ok (.iconst 0, 1) ∧ 74 + 1 = 75 := by decide +kernel
theorem e_X0_take_75 : decode cX0_take 75 = .ok (.iconst 4, 1) ∧ 75 + 1 = 76 := by decide +kernel
theorem e_X0_take_76 : decode cX0_take 76 = .ok (.invokestatic 53, 3) ∧ 76 + 3 = 79 := by decide +kernel
theorem e_X0_take_79 : decode cX0_take 79 = .ok (.aload_n 0, 1) ∧ 79 + 1 = 80 := by decide +kernel
theorem e_X0_take_80 : decode cX0_take 80 = .ok (.aload_n 1, 1) ∧ 80 + 1 = 81 := by decide +kernel
theorem e_X0_take_81 : decode cX0_take 81 = .ok (.getfield 27, 3) ∧ 81 + 3 = 84 := by decide +kernel
theorem e_X0_take_84 : decode cX0_take 84 = .ok (.putfield 27, 3) ∧ 84 + 3 = 87 := by decide +kernel
theorem e_X0_take_87 : decode cX0_take 87 = .ok (.aload_n 0, 1) ∧ 87 + 1 = 88 := by decide +kernel
theorem e_X0_take_88 : decode cX0_take 88 = .ok (.aload_n 1, 1) ∧ 88 + 1 = 89 := by decide +kernel
theorem e_X0_take_89 : decode cX0_take 89 = .ok (.getfield 35, 3) ∧ 89 + 3 = 92 := by decide +kernel
theorem e_X0_take_92 : decode cX0_take 92 = .ok (.putfield 35, 3) ∧ 92 + 3 = 95 := by decide +kernel
theorem e_X0_take_95 : decode cX0_take 95 = .ok (.aload_n 0, 1) ∧ 95 + 1 = 96 := by decide +kernel
theorem e_X0_take_96 : decode cX0_take 96 = .ok (.aload_n 1, 1) ∧ 96 + 1 = 97 := by decide +kernel
theorem e_X0_take_97 : decode cX0_take 97 = .ok (.getfield 38, 3) ∧ 97 + 3 = 100 := by decide +kernel
theorem e_X0_take_100 : decode cX0_take 100 = .ok (.putfield 38, 3) ∧ 100 + 3 = 103 := by decide +kernel
theorem e_X0_take_103 : decode cX0_take 103 = .ok (.aload_n 0, 1) ∧ 103 + 1 = 104 := by decide +kernel
theorem e_X0_take_104 : decode cX0_take 104 = .ok (.aload_n 1, 1) ∧ 104 + 1 = 105 := by decide +kernel
theorem e_X0_take_105 : decode cX0_take 105 = .ok (.getfield 41, 3) ∧ 105 + 3 = 108 := by decide +kernel
theorem e_X0_take_108 : decode cX0_take 108 = .ok (.putfield 41, 3) ∧ 108 + 3 = 111 := by decide +kernel
theorem e_X0_take_111 : decode cX0_take 111 = .ok (.aload_n 0, 1) ∧ 111 + 1 = 112 := by decide +kernel
theorem e_X0_take_112 : decode cX0_take 112 = .ok (.aload_n 1, 1) ∧ 112 + 1 = 113 := by decide +kernel
theorem e_X0_take_113 : decode cX0_take 113 = .ok (.getfield 44, 3) ∧ 113 + 3 = 116 := by decide +kernel
theorem e_X0_take_116 : decode cX0_take 116 = .ok (.putfield 44, 3) ∧ 116 + 3 = 119 := by decide +kernel
theorem e_X0_take_119 : decode cX0_take 119 = .ok (.aload_n 0, 1) ∧ 119 + 1 = 120 := by decide +kernel
theorem e_X0_take_120 : decode cX0_take 120 = .ok (.aload_n 1, 1) ∧ 120 + 1 = 121 := by decide +kernel
theorem e_X0_take_121 : decode cX0_take 121 = .ok (.getfield 47, 3) ∧ 121 + 3 = 124 := by decide +kernel
theorem e_X0_take_124 : decode cX0_take 124 = .ok (.putfield 47, 3) ∧ 124 + 3 = 127 := by decide +kernel
theorem e_X0_take_127 : decode cX0_take 127 = .ok (.aload_n 0, 1) ∧ 127 + 1 = 128 := by decide +kernel
theorem e_X0_take_128 : decode cX0_take 128 = .ok (.aload_n 1, 1) ∧ 128 + 1 = 129 := by decide +kernel
theorem e_X0_take_129 : decode cX0_take 129 = .ok (.getfield 50, 3) ∧ 129 + 3 = 132 := by decide +kernel
theorem e_X0_take_132 : decode cX0_take 132 = .ok (.putfield 50, 3) ∧ 132 + 3 = 135 := by decide +kernel
theorem e_X0_take_135 : decode cX0_take 135 = .ok (.return_, 1) := by decide +kernel
theorem e_X0_isFallen_0 : decode cX0_isFallen 0 = .ok (.aload_n 0, 1) ∧ 0 + 1 = 1 := by decide +kernel
theorem e_X0_isFallen_1 : decode cX0_isFallen 1 = .ok (.getfield 44, 3) ∧ 1 + 3 = 4 := by decide +kernel
theorem e_X0_isFallen_4 : decode cX0_isFallen 4 = .ok (.iload_n 1, 1) ∧ 4 + 1 = 5 := by decide +kernel
theorem e_X0_isFallen_5 : decode cX0_isFallen 5 = .ok (.invokestatic 59, 3) ∧ 5 + 3 = 8 := by decide +kernel
theorem e_X0_isFallen_8 : decode cX0_isFallen 8 = .ok (.ireturn, 1) := by decide +kernel
theorem e_X0_isMonk_0 : decode cX0_isMonk 0 = .ok (.iload_n 1, 1) ∧ 0 + 1 = 1 := by decide +kernel
theorem e_X0_isMonk_1 : decode cX0_isMonk 1 = .ok (.ifCond .lt 15, 3) ∧ 1 + 3 = 4 ∧ ((1 : Nat) : Int) + (15) = ((16 : Nat) : Int) := by decide +kernel
theorem e_X0_isMonk_4 : decode cX0_isMonk 4 = .ok (.iload_n 1, 1) ∧ 4 + 1 = 5 := by decide +kernel
theorem e_X0_isMonk_5 : decode cX0_isMonk 5 = .ok (.aload_n 0, 1) ∧ 5 + 1 = 6 := by decide +kernel
theorem e_X0_isMonk_6 : decode cX0_isMonk 6 = .ok (.getfield 35, 3) ∧ 6 + 3 = 9 := by decide +kernel
theorem e_X0_isMonk_9 : decode cX0_isMonk 9 = .ok (.if_icmp .ge 7, 3) ∧ 9 + 3 = 12 ∧ ((9 : Nat) : Int) + (7) = ((16 : Nat) : Int) := by decide +kernel
theorem e_X0_isMonk_12 : decode cX0_isMonk 12 = .ok (.iconst 1, 1) ∧ 12 + 1 = 13 := by decide +kernel
theorem e_X0_isMonk_13 : decode cX0_isMonk 13 = .ok (.goto 4, 3) ∧ 13 + 3 = 16 ∧ ((13 : Nat) : Int) + (4) = ((17 : Nat) : Int) := by decide +kernel
theorem e_X0_isMonk_16 : decode cX0_isMonk 16 = .ok (.iconst 0, 1) ∧ 16 + 1 = 17 := by decide +kernel
theorem e_X0_isMonk_17 : decode cX0_isMonk 17 = .ok (.ireturn, 1) := by decide +kernel
theorem e_X0_isLiving_0 : decode cX0_isLiving 0 = .ok (.aload_n 0, 1) ∧ 0 + 1 = 1 := by decide +kernel
theorem e_X0_isLiving_1 : decode cX0_isLiving 1 = .ok (.iload_n 1, 1) ∧ 1 + 1 = 2 := by decide +kernel
theorem e_X0_isLiving_2 : decode cX0_isLiving 2 = .ok (.invokevirtual 63, 3) ∧ 2 + 3 = 5 := by decide +kernel
theorem e_X0_isLiving_5 : decode cX0_isLiving 5 = .ok (.ifCond .eq 18, 3) ∧ 5 + 3 = 8 ∧ ((5 : Nat) : Int) + (18) = ((23 : Nat) : Int) := by decide +kernel
theorem e_X0_isLiving_8 : decode cX0_isLiving 8 = .ok (.aload_n 0, 1) ∧ 8 + 1 = 9 := by decide +kernel
theorem e_X0_isLiving_9 : decode cX0_isLiving 9 = .ok (.getfield 41, 3) ∧ 9 + 3 = 12 := by decide +kernel
theorem e_X0_isLiving_12 : decode cX0_isLiving 12 = .ok (.iload_n 1, 1) ∧ 12 + 1 = 13 := by decide +kernel
theorem e_X0_isLiving_13 : decode cX0_isLiving 13 = .ok (.invokestatic 59, 3) ∧ 13 + 3 = 16 := by decide +kernel
theorem e_X0_isLiving_16 : decode cX0_isLiving 16 = .ok (.ifCond .ne 7, 3) ∧ 16 + 3 = 19 ∧ ((16 : Nat) : Int) + (7) = ((23 : Nat) : Int) := by decide +kernel
theorem e_X0_isLiving_19 : decode cX0_isLiving 19 = .ok (.iconst 1, 1) ∧ 19 + 1 = 20 := by decide +kernel
theorem e_X0_isLiving_20 : decode cX0_isLiving 20 = .ok (.goto 4, 3) ∧ 20 + 3 = 23 ∧ ((20 : Nat) : Int) + (4) = ((24 : Nat) : Int) := by decide +kernel
theorem e_X0_isLiving_23 : decode cX0_isLiving 23 = .ok (.iconst 0, 1) ∧ 23 + 1 = 24 := by decide +kernel
theorem e_X0_isLiving_24 : decode cX0_isLiving 24 = .ok (.ireturn, 1) := by decide +kernel
theorem e_X0_living_0 : decode cX0_living 0 = .ok (.iconst 1, 1) ∧ 0 + 1 = 1 := by decide +kernel
theorem e_X0_living_1 : decode cX0_living 1 = .ok (.aload_n 0, 1) ∧ 1 + 1 = 2 := by decide +kernel
theorem e_X0_living_2 : decode cX0_living 2 = .ok (.getfield 35, 3) ∧ 2 + 3 = 5 := by decide +kernel
theorem e_X0_living_5 : decode cX0_living 5 = .ok (.ishl, 1) ∧ 5 + 1 = 6 := by decide +kernel
theorem e_X0_living_6 : decode cX0_living 6 = .ok (.iconst 1, 1) ∧ 6 + 1 = 7 := by decide +kernel
theorem e_X0_living_7 : decode cX0_living 7 = .ok (.isub, 1) ∧ 7 + 1 = 8 := by decide +kernel
theorem e_X0_living_8 : decode cX0_living 8 = .ok (.aload_n 0, 1) ∧ 8 + 1 = 9 := by decide +kernel
theorem e_X0_living_9 : decode cX0_living 9 = .ok (.getfield 41, 3) ∧ 9 + 3 = 12 := by decide +kernel
theorem e_X0_living_12 : decode cX0_living 12 = .ok (.iconst (-1), 1) ∧ 12 + 1 = 13 := by decide +kernel
theorem e_X0_living_13 : decode cX0_living 13 = .ok (.ixor, 1) ∧ 13 + 1 = 14 := by decide +kernel
theorem e_X0_living_14 : decode cX0_living 14 = .ok (.iand, 1) ∧ 14 + 1 = 15 := by decide +kernel
theorem e_X0_living_15 : decode cX0_living 15 = .ok (.ireturn, 1) := by decide +kernel
theorem e_X0_placeOf_0 : decode cX0_placeOf 0 = .ok (.aload_n 0, 1) ∧ 0 + 1 = 1 := by decide +kernel
theorem e_X0_placeOf_1 : decode cX0_placeOf 1 = .ok (.getfield 24, 3) ∧ 1 + 3 = 4 := by decide +kernel
theorem e_X0_placeOf_4 : decode cX0_placeOf 4 = .ok (.iload_n 1, 1) ∧ 4 + 1 = 5 := by decide +kernel
theorem e_X0_placeOf_5 : decode cX0_placeOf 5 = .ok (.invokestatic 67, 3) ∧ 5 + 3 = 8 := by decide +kernel
theorem e_X0_placeOf_8 : decode cX0_placeOf 8 = .ok (.ireturn, 1) := by decide +kernel
theorem e_X0_addMonk_0 : decode cX0_addMonk 0 = .ok (.aload_n 0, 1) ∧ 0 + 1 = 1 := by decide +kernel
theorem e_X0_addMonk_1 : decode cX0_addMonk 1 = .ok (.getfield 24, 3) ∧ 1 + 3 = 4 := by decide +kernel
theorem e_X0_addMonk_4 : decode cX0_addMonk 4 = .ok (.aload_n 0, 1) ∧ 4 + 1 = 5 := by decide +kernel
theorem e_X0_addMonk_5 : decode cX0_addMonk 5 = .ok (.getfield 35, 3) ∧ 5 + 3 = 8 := by decide +kernel
theorem e_X0_addMonk_8 : decode cX0_addMonk 8 = .ok (.iload_n 1, 1) ∧ 8 + 1 = 9 := by decide +kernel
theorem e_X0_addMonk_9 : decode cX0_addMonk 9 = .ok (.invokestatic 71, 3) ∧ 9 + 3 = 12 := by decide +kernel
theorem e_X0_addMonk_12 : decode cX0_addMonk 12 = .ok (.aload_n 0, 1) ∧ 12 + 1 = 13 := by decide +kernel
theorem e_X0_addMonk_13 : decode cX0_addMonk 13 = .ok (.dup, 1) ∧ 13 + 1 = 14 := by decide +kernel
theorem e_X0_addMonk_14 : decode cX0_addMonk 14 = .ok (.getfield 38, 3) ∧ 14 + 3 = 17 := by decide +kernel
theorem e_X0_addMonk_17 : decode cX0_addMonk 17 = .ok (.iload_n 2, 1) ∧ 17 + 1 = 18 := by decide +kernel
theorem e_X0_addMonk_18 : decode cX0_addMonk 18 = .ok (.aload_n 0, 1) ∧ 18 + 1 = 19 := by decide +kernel
theorem e_X0_addMonk_19 : decode cX0_addMonk 19 = .ok (.getfield 35, 3) ∧ 19 + 3 = 22 := by decide +kernel
theorem e_X0_addMonk_22 : decode cX0_addMonk 22 = .ok (.ishl, 1) ∧ 22 + 1 = 23 := by decide +kernel
theorem e_X0_addMonk_23 : decode cX0_addMonk 23 = .ok (.ior, 1) ∧ 23 + 1 = 24 := by decide +kernel
theorem e_X0_addMonk_24 : decode cX0_addMonk 24 = .ok (.putfield 38, 3) ∧ 24 + 3 = 27 := by decide +kernel
theorem e_X0_addMonk_27 : decode cX0_addMonk 27 = .ok (.aload_n 0, 1) ∧ 27 + 1 = 28 := by decide +kernel
theorem e_X0_addMonk_28 : decode cX0_addMonk 28 = .ok (.dup, 1) ∧ 28 + 1 = 29 := by decide +kernel
theorem e_X0_addMonk_29 : decode cX0_addMonk 29 = .ok (.getfield 35, 3) ∧ 29 + 3 = 32 := by decide +kernel
theorem e_X0_addMonk_32 : decode cX0_addMonk 32 = .ok (.iconst 1, 1) ∧ 32 + 1 = 33 := by decide +kernel
theorem e_X0_addMonk_33 : decode cX0_addMonk 33 = .ok (.iadd, 1) ∧ 33 + 1 = 34 := by decide +kernel
theorem e_X0_addMonk_34 : decode cX0_addMonk 34 = .ok (.putfield 35, 3) ∧ 34 + 3 = 37 := by decide +kernel
theorem e_X0_addMonk_37 : decode cX0_addMonk 37 = .ok (.return_, 1) := by decide +kernel
theorem e_X0_monksOn_0 : decode cX0_monksOn 0 = .ok (.iconst 0, 1) ∧ 0 + 1 = 1 := by decide +kernel
theorem e_X0_monksOn_1 : decode cX0_monksOn 1 = .ok (.istore_n 2, 1) ∧ 1 + 1 = 2 := by decide +kernel
theorem e_X0_monksOn_2 : decode cX0_monksOn 2 = .ok (.iconst 0, 1) ∧ 2 + 1 = 3 := by decide +kernel
theorem e_X0_monksOn_3 : decode cX0_monksOn 3 = .ok (.istore_n 3, 1) ∧ 3 + 1 = 4 := by decide +kernel
theorem e_X0_monksOn_4 : decode cX0_monksOn 4 = .ok (.iload_n 3, 1) ∧ 4 + 1 = 5 := by decide +kernel
theorem e_X0_monksOn_5 : decode cX0_monksOn 5 = .ok (.aload_n 0, 1) ∧ 5 + 1 = 6 := by decide +kernel
theorem e_X0_monksOn_6 : decode cX0_monksOn 6 = .ok (.getfield 35, 3) ∧ 6 + 3 = 9 := by decide +kernel
theorem e_X0_monksOn_9 : decode cX0_monksOn 9 = .ok (.if_icmp .ge 33, 3) ∧ 9 + 3 = 12 ∧ ((9 : Nat) : Int) + (33) = ((42 : Nat) : Int) := by decide +kernel
theorem e_X0_monksOn_12 : decode cX0_monksOn 12 = .ok (.iload_n 3, 1) ∧ 12 + 1 = 13 := by decide +kernel
theorem e_X0_monksOn_13 : decode cX0_monksOn 13 = .ok (.aload_n 0, 1) ∧ 13 + 1 = 14 := by decide +kernel
theorem e_X0_monksOn_14 : decode cX0_monksOn 14 = .ok (.getfield 24, 3) ∧ 14 + 3 = 17 := by decide +kernel
theorem e_X0_monksOn_17 : decode cX0_monksOn 17 = .ok (.arraylength, 1) ∧ 17 + 1 = 18 := by decide +kernel
theorem e_X0_monksOn_18 : decode cX0_monksOn 18 = .ok (.if_icmp .ge 24, 3) ∧ 18 + 3 = 21 ∧ ((18 : Nat) : Int) + (24) = ((42 : Nat) : Int) := by decide +kernel
theorem e_X0_monksOn_21 : decode cX0_monksOn 21 = .ok (.iload_n 2, 1) ∧ 21 + 1 = 22 := by decide +kernel
theorem e_X0_monksOn_22 : decode cX0_monksOn 22 = .ok (.iload_n 1, 1) ∧ 22 + 1 = 23 := by decide +kernel
theorem e_X0_monksOn_23 : decode cX0_monksOn 23 = .ok (.aload_n 0, 1) ∧ 23 + 1 = 24 := by decide +kernel
theorem e_X0_monksOn_24 : decode cX0_monksOn 24 = .ok (.getfield 24, 3) ∧ 24 + 3 = 27 := by decide +kernel
theorem e_X0_monksOn_27 : decode cX0_monksOn 27 = .ok (.iload_n 3, 1) ∧ 27 + 1 = 28 := by decide +kernel
theorem e_X0_monksOn_28 : decode cX0_monksOn 28 = .ok (.iaload, 1) ∧ 28 + 1 = 29 := by decide +kernel
theorem e_X0_monksOn_29 : decode cX0_monksOn 29 = .ok (.ishr, 1) ∧ 29 + 1 = 30 := by decide +kernel
theorem e_X0_monksOn_30 : decode cX0_monksOn 30 = .ok (.iconst 1, 1) ∧ 30 + 1 = 31 := by decide +kernel
theorem e_X0_monksOn_31 : decode cX0_monksOn 31 = .ok (.iand, 1) ∧ 31 + 1 = 32 := by decide +kernel
theorem e_X0_monksOn_32 : decode cX0_monksOn 32 = .ok (.iload_n 3, 1) ∧ 32 + 1 = 33 := by decide +kernel
theorem e_X0_monksOn_33 : decode cX0_monksOn 33 = .ok (.ishl, 1) ∧ 33 + 1 = 34 := by decide +kernel
theorem e_X0_monksOn_34 : decode cX0_monksOn 34 = .ok (.ior, 1) ∧ 34 + 1 = 35 := by decide +kernel
theorem e_X0_monksOn_35 : decode cX0_monksOn 35 = .ok (.istore_n 2, 1) ∧ 35 + 1 = 36 := by decide +kernel
theorem e_X0_monksOn_36 : decode cX0_monksOn 36 = .ok (.iinc 3 1, 3) ∧ 36 + 3 = 39 := by decide +kernel
theorem e_X0_monksOn_39 : decode cX0_monksOn 39 = .ok (.goto (-35), 3) ∧ 39 + 3 = 42 ∧ ((39 : Nat) : Int) + (-35) = ((4 : Nat) : Int) := by decide +kernel
theorem e_X0_monksOn_42 : decode cX0_monksOn 42 = .ok (.iload_n 2, 1) ∧ 42 + 1 = 43 := by decide +kernel
theorem e_X0_monksOn_43 : decode cX0_monksOn 43 = .ok (.ireturn, 1) := by decide +kernel
theorem e_X0_oreLeft_0 : decode cX0_oreLeft 0 = .ok (.iconst 0, 1) ∧ 0 + 1 = 1 := by decide +kernel
theorem e_X0_oreLeft_1 : decode cX0_oreLeft 1 = .ok (.istore_n 1, 1) ∧ 1 + 1 = 2 := by decide +kernel
theorem e_X0_oreLeft_2 : decode cX0_oreLeft 2 = .ok (.iconst 0, 1) ∧ 2 + 1 = 3 := by decide +kernel
theorem e_X0_oreLeft_3 : decode cX0_oreLeft 3 = .ok (.istore_n 2, 1) ∧ 3 + 1 = 4 := by decide +kernel
theorem e_X0_oreLeft_4 : decode cX0_oreLeft 4 = .ok (.iload_n 2, 1) ∧ 4 + 1 = 5 := by decide +kernel
theorem e_X0_oreLeft_5 : decode cX0_oreLeft 5 = .ok (.aload_n 0, 1) ∧ 5 + 1 = 6 := by decide +kernel
theorem e_X0_oreLeft_6 : decode cX0_oreLeft 6 = .ok (.getfield 9, 3) ∧ 6 + 3 = 9 := by decide +kernel
theorem e_X0_oreLeft_9 : decode cX0_oreLeft 9 = .ok (.arraylength, 1) ∧ 9 + 1 = 10 := by decide +kernel
theorem e_X0_oreLeft_10 : decode cX0_oreLeft 10 = .ok (.if_icmp .ge 18, 3) ∧ 10 + 3 = 13 ∧ ((10 : Nat) : Int) + (18) = ((28 : Nat) : Int) := by decide +kernel
theorem e_X0_oreLeft_13 : decode cX0_oreLeft 13 = .ok (.iload_n 1, 1) ∧ 13 + 1 = 14 := by decide +kernel
theorem e_X0_oreLeft_14 : decode cX0_oreLeft 14 = .ok (.aload_n 0, 1) ∧ 14 + 1 = 15 := by decide +kernel
theorem e_X0_oreLeft_15 : decode cX0_oreLeft 15 = .ok (.getfield 9, 3) ∧ 15 + 3 = 18 := by decide +kernel
theorem e_X0_oreLeft_18 : decode cX0_oreLeft 18 = .ok (.iload_n 2, 1) ∧ 18 + 1 = 19 := by decide +kernel
theorem e_X0_oreLeft_19 : decode cX0_oreLeft 19 = .ok (.iaload, 1) ∧ 19 + 1 = 20 := by decide +kernel
theorem e_X0_oreLeft_20 : decode cX0_oreLeft 20 = .ok (.iadd, 1) ∧ 20 + 1 = 21 := by decide +kernel
theorem e_X0_oreLeft_21 : decode cX0_oreLeft 21 = .ok (.istore_n 1, 1) ∧ 21 + 1 = 22 := by decide +kernel
theorem e_X0_oreLeft_22 : decode cX0_oreLeft 22 = .ok (.iinc 2 1, 3) ∧ 22 + 3 = 25 := by decide +kernel
theorem e_X0_oreLeft_25 : decode cX0_oreLeft 25 = .ok (.goto (-21), 3) ∧ 25 + 3 = 28 ∧ ((25 : Nat) : Int) + (-21) = ((4 : Nat) : Int) := by decide +kernel
theorem e_X0_oreLeft_28 : decode cX0_oreLeft 28 = .ok (.iload_n 1, 1) ∧ 28 + 1 = 29 := by decide +kernel
theorem e_X0_oreLeft_29 : decode cX0_oreLeft 29 = .ok (.ireturn, 1) := by decide +kernel
theorem e_X0_forceOf_0 : decode cX0_forceOf 0 = .ok (.aload_n 0, 1) ∧ 0 + 1 = 1 := by decide +kernel
theorem e_X0_forceOf_1 : decode cX0_forceOf 1 = .ok (.invokevirtual 75, 3) ∧ 1 + 3 = 4 := by decide +kernel
theorem e_X0_forceOf_4 : decode cX0_forceOf 4 = .ok (.istore_n 2, 1) ∧ 4 + 1 = 5 := by decide +kernel
theorem e_X0_forceOf_5 : decode cX0_forceOf 5 = .ok (.iload_n 2, 1) ∧ 5 + 1 = 6 := by decide +kernel
theorem e_X0_forceOf_6 : decode cX0_forceOf 6 = .ok (.iload_n 1, 1) ∧ 6 + 1 = 7 := by decide +kernel
theorem e_X0_forceOf_7 : decode cX0_forceOf 7 = .ok (.invokestatic 59, 3) ∧ 7 + 3 = 10 := by decide +kernel
theorem e_X0_forceOf_10 : decode cX0_forceOf 10 = .ok (.ifCond .ne 5, 3) ∧ 10 + 3 = 13 ∧ ((10 : Nat) : Int) + (5) = ((15 : Nat) : Int) := by decide +kernel
theorem e_X0_forceOf_13 : decode cX0_forceOf 13 = .ok (.iconst 0, 1) ∧ 13 + 1 = 14 := by decide +kernel
theorem e_X0_forceOf_14 : decode cX0_forceOf 14 = .ok (.ireturn, 1) := by decide +kernel
theorem e_X0_forceOf_15 : decode cX0_forceOf 15 = .ok (.aload_n 0, 1) ∧ 15 + 1 = 16 := by decide +kernel
theorem e_X0_forceOf_16 : decode cX0_forceOf 16 = .ok (.iload_n 1, 1) ∧ 16 + 1 = 17 := by decide +kernel
theorem e_X0_forceOf_17 : decode cX0_forceOf 17 = .ok (.invokevirtual 79, 3) ∧ 17 + 3 = 20 := by decide +kernel
theorem e_X0_forceOf_20 : decode cX0_forceOf 20 = .ok (.istore_n 3, 1) ∧ 20 + 1 = 21 := by decide +kernel
theorem e_X0_forceOf_21 : decode cX0_forceOf 21 = .ok (.aload_n 0, 1) ∧ 21 + 1 = 22 := by decide +kernel
theorem e_X0_forceOf_22 : decode cX0_forceOf 22 = .ok (.getfield 38, 3) ∧ 22 + 3 = 25 := by decide +kernel
theorem e_X0_forceOf_25 : decode cX0_forceOf 25 = .ok (.iload_n 1, 1) ∧ 25 + 1 = 26 := by decide +kernel
theorem e_X0_forceOf_26 : decode cX0_forceOf 26 = .ok (.invokestatic 59, 3) ∧ 26 + 3 = 29 := by decide +kernel
theorem e_X0_forceOf_29 : decode cX0_forceOf 29 = .ok (.ifCond .eq 12, 3) ∧ 29 + 3 = 32 ∧ ((29 : Nat) : Int) + (12) = ((41 : Nat) : Int) := by decide +kernel
theorem e_X0_forceOf_32 : decode cX0_forceOf 32 = .ok (.aload_n 0, 1) ∧ 32 + 1 = 33 := by decide +kernel
theorem e_X0_forceOf_33 : decode cX0_forceOf 33 = .ok (.getfield 38, 3) ∧ 33 + 3 = 36 := by decide +kernel
theorem e_X0_forceOf_36 : decode cX0_forceOf 36 = .ok (.iconst (-1), 1) ∧ 36 + 1 = 37 := by decide +kernel
theorem e_X0_forceOf_37 : decode cX0_forceOf 37 = .ok (.ixor, 1) ∧ 37 + 1 = 38 := by decide +kernel
theorem e_X0_forceOf_38 : decode cX0_forceOf 38 = .ok (.goto 7, 3) ∧ 38 + 3 = 41 ∧ ((38 : Nat) : Int) + (7) = ((45 : Nat) : Int) := by decide +kernel
theorem e_X0_forceOf_41 : decode cX0_forceOf 41 = .ok (.aload_n 0, 1) ∧ 41 + 1 = 42 := by decide +kernel
theorem e_X0_forceOf_42 : decode cX0_forceOf 42 = .ok (.getfield 38, 3) ∧ 42 + 3 = 45 := by decide +kernel
theorem e_X0_forceOf_45 : decode cX0_forceOf 45 = .ok (.istore 4, 2) ∧ 45 + 2 = 47 := by decide +kernel
theorem e_X0_forceOf_47 : decode cX0_forceOf 47 = .ok (.aload_n 0, 1) ∧ 47 + 1 = 48 := by decide +kernel
theorem e_X0_forceOf_48 : decode cX0_forceOf 48 = .ok (.iconst 1, 1) ∧ 48 + 1 = 49 := by decide +kernel
theorem e_X0_forceOf_49 : decode cX0_forceOf 49 = .ok (.iload_n 3, 1) ∧ 49 + 1 = 50 := by decide +kernel
theorem e_X0_forceOf_50 : decode cX0_forceOf 50 = .ok (.ishl, 1) ∧ 50 + 1 = 51 := by decide +kernel
theorem e_X0_forceOf_51 : decode cX0_forceOf 51 = .ok (.getstatic 83, 3) ∧ 51 + 3 = 54 := by decide +kernel
theorem e_X0_forceOf_54 : decode cX0_forceOf 54 = .ok (.iload_n 3, 1) ∧ 54 + 1 = 55 := by decide +kernel
theorem e_X0_forceOf_55 : decode cX0_forceOf 55 = .ok (.invokestatic 67, 3) ∧ 55 + 3 = 58 := by decide +kernel
theorem e_X0_forceOf_58 : decode cX0_forceOf 58 = .ok (.ior, 1) ∧ 58 + 1 = 59 := by decide +kernel
theorem e_X0_forceOf_59 : decode cX0_forceOf 59 = .ok (.invokevirtual 86, 3) ∧ 59 + 3 = 62 := by decide +kernel
theorem e_X0_forceOf_62 : decode cX0_forceOf 62 = .ok (.istore 5, 2) ∧ 62 + 2 = 64 := by decide +kernel
theorem e_X0_forceOf_64 : decode cX0_forceOf 64 = .ok (.iload 5, 2) ∧ 64 + 2 = 66 := by decide +kernel
theorem e_X0_forceOf_66 : decode cX0_forceOf 66 = .ok (.iload 4, 2) ∧ 66 + 2 = 68 := by decide +kernel
theorem e_X0_forceOf_68 : decode cX0_forceOf 68 = .ok (.iand, 1) ∧ 68 + 1 = 69 := by decide +kernel
theorem e_X0_forceOf_69 : decode cX0_forceOf 69 = .ok (.iload_n 2, 1) ∧ 69 + 1 = 70 := by decide +kernel
theorem e_X0_forceOf_70 : decode cX0_forceOf 70 = .ok (.iand, 1) ∧ 70 + 1 = 71 := by decide +kernel
theorem e_X0_forceOf_71 : decode cX0_forceOf 71 = .ok (.ifCond .eq 7, 3) ∧ 71 + 3 = 74 ∧ ((71 : Nat) : Int) + (7) = ((78 : Nat) : Int) := by decide +kernel
theorem e_X0_forceOf_74 : decode cX0_forceOf 74 = .ok (.iconst 2, 1) ∧ 74 + 1 = 75 := by decide +kernel
theorem e_X0_forceOf_75 : decode cX0_forceOf 75 = .ok (.goto 4, 3) ∧ 75 + 3 = 78 ∧ ((75 : Nat) : Int) + (4) = ((79 : Nat) : Int) := by decide +kernel
theorem e_X0_forceOf_78 : decode cX0_forceOf 78 = .ok (.iconst 1, 1) ∧ 78 + 1 = 79 := by decide +kernel
theorem e_X0_forceOf_79 : decode cX0_forceOf 79 = .ok (.ireturn, 1) := by decide +kernel
theorem e_X0_prayer_0 : decode cX0_prayer 0 = .ok (.aload_n 0, 1) ∧ 0 + 1 = 1 := by decide +kernel
theorem e_X0_prayer_1 : decode cX0_prayer 1 = .ok (.iload_n 1, 1) ∧ 1 + 1 = 2 := by decide +kernel
theorem e_X0_prayer_2 : decode cX0_prayer 2 = .ok (.invokevirtual 89, 3) ∧ 2 + 3 = 5 := by decide +kernel
theorem e_X0_prayer_5 : decode cX0_prayer 5 = .ok (.aload_n 0, 1) ∧ 5 + 1 = 6 := by decide +kernel
theorem e_X0_prayer_6 : decode cX0_prayer 6 = .ok (.invokevirtual 92, 3) ∧ 6 + 3 = 9 := by decide +kernel
theorem e_X0_prayer_9 : decode cX0_prayer 9 = .ok (.ireturn, 1) := by decide +kernel
theorem e_X0_prayAll_0 : decode cX0_prayAll 0 = .ok (.iconst 0, 1) ∧ 0 + 1 = 1 := by decide +kernel
theorem e_X0_prayAll_1 : decode cX0_prayAll 1 = .ok (.istore_n 2, 1) ∧ 1 + 1 = 2 := by decide +kernel
theorem e_X0_prayAll_2 : decode cX0_prayAll 2 = .ok (.iload_n 2, 1) ∧ 2 + 1 = 3 := by decide +kernel
theorem e_X0_prayAll_3 : decode cX0_prayAll 3 = .ok (.iconst 4, 1) ∧ 3 + 1 = 4 := by decide +kernel
theorem e_X0_prayAll_4 : decode cX0_prayAll 4 = .ok (.if_icmp .ge 31, 3) ∧ 4 + 3 = 7 ∧ ((4 : Nat) : Int) + (31) = ((35 : Nat) : Int) := by decide +kernel
theorem e_X0_prayAll_7 : decode cX0_prayAll 7 = .ok (.iload_n 1, 1) ∧ 7 + 1 = 8 := by decide +kernel
theorem e_X0_prayAll_8 : decode cX0_prayAll 8 = .ok (.iload_n 2, 1) ∧ 8 + 1 = 9 := by decide +kernel
theorem e_X0_prayAll_9 : decode cX0_prayAll 9 = .ok (.invokestatic 59, 3) ∧ 9 + 3 = 12 := by decide +kernel
theorem e_X0_prayAll_12 : decode cX0_prayAll 12 = .ok (.ifCond .eq 17, 3) ∧ 12 + 3 = 15 ∧ ((12 : Nat) : Int) + (17) = ((29 : Nat) : Int) := by decide +kernel
theorem e_X0_prayAll_15 : decode cX0_prayAll 15 = .ok (.aload_n 0, 1) ∧ 15 + 1 = 16 := by decide +kernel
theorem e_X0_prayAll_16 : decode cX0_prayAll 16 = .ok (.iload_n 2, 1) ∧ 16 + 1 = 17 := by decide +kernel
theorem e_X0_prayAll_17 : decode cX0_prayAll 17 = .ok (.invokevirtual 95, 3) ∧ 17 + 3 = 20 := by decide +kernel
theorem e_X0_prayAll_20 : decode cX0_prayAll 20 = .ok (.ifCond .eq 9, 3) ∧ 20 + 3 = 23 ∧ ((20 : Nat) : Int) + (9) = ((29 : Nat) : Int) := by decide +kernel
theorem e_X0_prayAll_23 : decode cX0_prayAll 23 = .ok (.aload_n 0, 1) ∧ 23 + 1 = 24 := by decide +kernel
theorem e_X0_prayAll_24 : decode cX0_prayAll 24 = .ok (.iload_n 2, 1) ∧ 24 + 1 = 25 := by decide +kernel
theorem e_X0_prayAll_25 : decode cX0_prayAll 25 = .ok (.invokevirtual 98, 3) ∧ 25 + 3 = 28 := by decide +kernel
theorem e_X0_prayAll_28 : decode cX0_prayAll 28 = .ok (.pop, 1) ∧ 28 + 1 = 29 := by decide +kernel
theorem e_X0_prayAll_29 : decode cX0_prayAll 29 = .ok (.iinc 2 1, 3) ∧ 29 + 3 = 32 := by decide +kernel
theorem e_X0_prayAll_32 : decode cX0_prayAll 32 = .ok (.goto (-30), 3) ∧ 32 + 3 = 35 ∧ ((32 : Nat) : Int) + (-30) = ((2 : Nat) : Int) := by decide +kernel
theorem e_X0_prayAll_35 : decode cX0_prayAll 35 = .ok (.return_, 1) := by decide +kernel
theorem e_X0_endDay_0 : decode cX0_endDay 0 = .ok (.aload_n 0, 1) ∧ 0 + 1 = 1 := by decide +kernel
theorem e_X0_endDay_1 : decode cX0_endDay 1 = .ok (.dup, 1) ∧ 1 + 1 = 2 := by decide +kernel
theorem e_X0_endDay_2 : decode cX0_endDay 2 = .ok (.getfield 50, 3) ∧ 2 + 3 = 5 := by decide +kernel
theorem e_X0_endDay_5 : decode cX0_endDay 5 = .ok (.iconst 1, 1) ∧ 5 + 1 = 6 := by decide +kernel
theorem e_X0_endDay_6 : decode cX0_endDay 6 = .ok (.iadd, 1) ∧ 6 + 1 = 7 := by decide +kernel
theorem e_X0_endDay_7 : decode cX0_endDay 7 = .ok (.putfield 50, 3) ∧ 7 + 3 = 10 := by decide +kernel
theorem e_X0_endDay_10 : decode cX0_endDay 10 = .ok (.iconst 0, 1) ∧ 10 + 1 = 11 := by decide +kernel
theorem e_X0_endDay_11 : decode cX0_endDay 11 = .ok (.istore_n 1, 1) ∧ 11 + 1 = 12 := by decide +kernel
theorem e_X0_endDay_12 : decode cX0_endDay 12 = .ok (.iload_n 1, 1) ∧ 12 + 1 = 13 := by decide +kernel
theorem e_X0_endDay_13 : decode cX0_endDay 13 = .ok (.bipush 12, 2) ∧ 13 + 2 = 15 := by decide +kernel
theorem e_X0_endDay_15 : decode cX0_endDay 15 = .ok (.if_icmp .ge 33, 3) ∧ 15 + 3 = 18 ∧ ((15 : Nat) : Int) + (33) = ((48 : Nat) : Int) := by decide +kernel
theorem e_X0_endDay_18 : decode cX0_endDay 18 = .ok (.aload_n 0, 1) ∧ 18 + 1 = 19 := by decide +kernel
theorem e_X0_endDay_19 : decode cX0_endDay 19 = .ok (.iconst 1, 1) ∧ 19 + 1 = 20 := by decide +kernel
theorem e_X0_endDay_20 : decode cX0_endDay 20 = .ok (.iload_n 1, 1) ∧ 20 + 1 = 21 := by decide +kernel
theorem e_X0_endDay_21 : decode cX0_endDay 21 = .ok (.ishl, 1) ∧ 21 + 1 = 22 := by decide +kernel
theorem e_X0_endDay_22 : decode cX0_endDay 22 = .ok (.aload_n 0, 1) ∧ 22 + 1 = 23 := by decide +kernel
theorem e_X0_endDay_23 : decode cX0_endDay 23 = .ok (.getfield 21, 3) ∧ 23 + 3 = 26 := by decide +kernel
theorem e_X0_endDay_26 : decode cX0_endDay 26 = .ok (.iload_n 1, 1) ∧ 26 + 1 = 27 := by decide +kernel
theorem e_X0_endDay_27 : decode cX0_endDay 27 = .ok (.invokestatic 67, 3) ∧ 27 + 3 = 30 := by decide +kernel
theorem e_X0_endDay_30 : decode cX0_endDay 30 = .ok (.invokevirtual 101, 3) ∧ 30 + 3 = 33 := by decide +kernel
theorem e_X0_endDay_33 : decode cX0_endDay 33 = .ok (.aload_n 0, 1) ∧ 33 + 1 = 34 := by decide +kernel
theorem e_X0_endDay_34 : decode cX0_endDay 34 = .ok (.getfield 21, 3) ∧ 34 + 3 = 37 := by decide +kernel
theorem e_X0_endDay_37 : decode cX0_endDay 37 = .ok (.iload_n 1, 1) ∧ 37 + 1 = 38 := by decide +kernel
theorem e_X0_endDay_38 : decode cX0_endDay 38 = .ok (.iconst 0, 1) ∧ 38 + 1 = 39 := by decide +kernel
theorem e_X0_endDay_39 : decode cX0_endDay 39 = .ok (.invokestatic 71, 3) ∧ 39 + 3 = 42 := by decide +kernel
theorem e_X0_endDay_42 : decode cX0_endDay 42 = .ok (.iinc 1 1, 3) ∧ 42 + 3 = 45 := by decide +kernel
theorem e_X0_endDay_45 : decode cX0_endDay 45 = .ok (.goto (-33), 3) ∧ 45 + 3 = 48 ∧ ((45 : Nat) : Int) + (-33) = ((12 : Nat) : Int) := by decide +kernel
theorem e_X0_endDay_48 : decode cX0_endDay 48 = .ok (.aload_n 0, 1) ∧ 48 + 1 = 49 := by decide +kernel
theorem e_X0_endDay_49 : decode cX0_endDay 49 = .ok (.invokevirtual 92, 3) ∧ 49 + 3 = 52 := by decide +kernel
theorem e_X0_endDay_52 : decode cX0_endDay 52 = .ok (.ireturn, 1) := by decide +kernel
theorem e_X0_loosenBy_0 : decode cX0_loosenBy 0 = .ok (.aload_n 0, 1) ∧ 0 + 1 = 1 := by decide +kernel
theorem e_X0_loosenBy_1 : decode cX0_loosenBy 1 = .ok (.iload_n 1, 1) ∧ 1 + 1 = 2 := by decide +kernel
theorem e_X0_loosenBy_2 : decode cX0_loosenBy 2 = .ok (.invokevirtual 105, 3) ∧ 2 + 3 = 5 := by decide +kernel
theorem e_X0_loosenBy_5 : decode cX0_loosenBy 5 = .ok (.istore_n 2, 1) ∧ 5 + 1 = 6 := by decide +kernel
theorem e_X0_loosenBy_6 : decode cX0_loosenBy 6 = .ok (.aload_n 0, 1) ∧ 6 + 1 = 7 := by decide +kernel
theorem e_X0_loosenBy_7 : decode cX0_loosenBy 7 = .ok (.iload_n 1, 1) ∧ 7 + 1 = 8 := by decide +kernel
theorem e_X0_loosenBy_8 : decode cX0_loosenBy 8 = .ok (.invokevirtual 79, 3) ∧ 8 + 3 = 11 := by decide +kernel
theorem e_X0_loosenBy_11 : decode cX0_loosenBy 11 = .ok (.istore_n 3, 1) ∧ 11 + 1 = 12 := by decide +kernel
theorem e_X0_loosenBy_12 : decode cX0_loosenBy 12 = .ok (.aload_n 0, 1) ∧ 12 + 1 = 13 := by decide +kernel
theorem e_X0_loosenBy_13 : decode cX0_loosenBy 13 = .ok (.iconst 1, 1) ∧ 13 + 1 = 14 := by decide +kernel
theorem e_X0_loosenBy_14 : decode cX0_loosenBy 14 = .ok (.iload_n 3, 1) ∧ 14 + 1 = 15 := by decide +kernel
theorem e_X0_loosenBy_15 : decode cX0_loosenBy 15 = .ok (.ishl, 1) ∧ 15 + 1 = 16 := by decide +kernel
theorem e_X0_loosenBy_16 : decode cX0_loosenBy 16 = .ok (.iconst 2, 1) ∧ 16 + 1 = 17 := by decide +kernel
theorem e_X0_loosenBy_17 : decode cX0_loosenBy 17 = .ok (.iload_n 2, 1) ∧ 17 + 1 = 18 := by decide +kernel
theorem e_X0_loosenBy_18 : decode cX0_loosenBy 18 = .ok (.imul, 1) ∧ 18 + 1 = 19 := by decide +kernel
theorem e_X0_loosenBy_19 : decode cX0_loosenBy 19 = .ok (.invokevirtual 101, 3) ∧ 19 + 3 = 22 := by decide +kernel
theorem e_X0_loosenBy_22 : decode cX0_loosenBy 22 = .ok (.aload_n 0, 1) ∧ 22 + 1 = 23 := by decide +kernel
theorem e_X0_loosenBy_23 : decode cX0_loosenBy 23 = .ok (.getstatic 83, 3) ∧ 23 + 3 = 26 := by decide +kernel
theorem e_X0_loosenBy_26 : decode cX0_loosenBy 26 = .ok (.iload_n 3, 1) ∧ 26 + 1 = 27 := by decide +kernel
theorem e_X0_loosenBy_27 : decode cX0_loosenBy 27 = .ok (.invokestatic 67, 3) ∧ 27 + 3 = 30 := by decide +kernel
theorem e_X0_loosenBy_30 : decode cX0_loosenBy 30 = .ok (.iload_n 2, 1) ∧ 30 + 1 = 31 := by decide +kernel
theorem e_X0_loosenBy_31 : decode cX0_loosenBy 31 = .ok (.invokevirtual 101, 3) ∧ 31 + 3 = 34 := by decide +kernel
theorem e_X0_loosenBy_34 : decode cX0_loosenBy 34 = .ok (.aload_n 0, 1) ∧ 34 + 1 = 35 := by decide +kernel
theorem e_X0_loosenBy_35 : decode cX0_loosenBy 35 = .ok (.iload_n 3, 1) ∧ 35 + 1 = 36 := by decide +kernel
theorem e_X0_loosenBy_36 : decode cX0_loosenBy 36 = .ok (.invokevirtual 108, 3) ∧ 36 + 3 = 39 := by decide +kernel
theorem e_X0_loosenBy_39 : decode cX0_loosenBy 39 = .ok (.ifCond .ne 21, 3) ∧ 39 + 3 = 42 ∧ ((39 : Nat) : Int) + (21) = ((60 : Nat) : Int) := by decide +kernel
theorem e_X0_loosenBy_42 : decode cX0_loosenBy 42 = .ok (.aload_n 0, 1) ∧ 42 + 1 = 43 := by decide +kernel
theorem e_X0_loosenBy_43 : decode cX0_loosenBy 43 = .ok (.getfield 21, 3) ∧ 43 + 3 = 46 := by decide +kernel
theorem e_X0_loosenBy_46 : decode cX0_loosenBy 46 = .ok (.iload_n 3, 1) ∧ 46 + 1 = 47 := by decide +kernel
theorem e_X0_loosenBy_47 : decode cX0_loosenBy 47 = .ok (.aload_n 0, 1) ∧ 47 + 1 = 48 := by decide +kernel
theorem e_X0_loosenBy_48 : decode cX0_loosenBy 48 = .ok (.getfield 21, 3) ∧ 48 + 3 = 51 := by decide +kernel
theorem e_X0_loosenBy_51 : decode cX0_loosenBy 51 = .ok (.iload_n 3, 1) ∧ 51 + 1 = 52 := by decide +kernel
theorem e_X0_loosenBy_52 : decode cX0_loosenBy 52 = .ok (.invokestatic 67, 3) ∧ 52 + 3 = 55 := by decide +kernel
theorem e_X0_loosenBy_55 : decode cX0_loosenBy 55 = .ok (.iconst 1, 1) ∧ 55 + 1 = 56 := by decide +kernel
theorem e_X0_loosenBy_56 : decode cX0_loosenBy 56 = .ok (.iadd, 1) ∧ 56 + 1 = 57 := by decide +kernel
theorem e_X0_loosenBy_57 : decode cX0_loosenBy 57 = .ok (.invokestatic 71, 3) ∧ 57 + 3 = 60 := by decide +kernel
theorem e_X0_loosenBy_60 : decode cX0_loosenBy 60 = .ok (.return_, 1) := by decide +kernel
theorem e_X0_propsWanting_0 : decode cX0_propsWanting 0 = .ok (.iconst 0, 1) ∧ 0 + 1 = 1 := by decide +kernel
theorem e_X0_propsWanting_1 : decode cX0_propsWanting 1 = .ok (.istore_n 1, 1) ∧ 1 + 1 = 2 := by decide +kernel
theorem e_X0_propsWanting_2 : decode cX0_propsWanting 2 = .ok (.iconst 0, 1) ∧ 2 + 1 = 3 := by decide +kernel
theorem e_X0_propsWanting_3 : decode cX0_propsWanting 3 = .ok (.istore_n 2, 1) ∧ 3 + 1 = 4 := by decide +kernel
theorem e_X0_propsWanting_4 : decode cX0_propsWanting 4 = .ok (.iload_n 2, 1) ∧ 4 + 1 = 5 := by decide +kernel
theorem e_X0_propsWanting_5 : decode cX0_propsWanting 5 = .ok (.aload_n 0, 1) ∧ 5 + 1 = 6 := by decide +kernel
theorem e_X0_propsWanting_6 : decode cX0_propsWanting 6 = .ok (.getfield 15, 3) ∧ 6 + 3 = 9 := by decide +kernel
theorem e_X0_propsWanting_9 : decode cX0_propsWanting 9 = .ok (.arraylength, 1) ∧ 9 + 1 = 10 := by decide +kernel
theorem e_X0_propsWanting_10 : decode cX0_propsWanting 10 = .ok (.if_icmp .ge 43, 3) ∧ 10 + 3 = 13 ∧ ((10 : Nat) : Int) + (43) = ((53 : Nat) : Int) := by decide +kernel
theorem e_X0_propsWanting_13 : decode cX0_propsWanting 13 = .ok (.iload_n 2, 1) ∧ 13 + 1 = 14 := by decide +kernel
theorem e_X0_propsWanting_14 : decode cX0_propsWanting 14 = .ok (.aload_n 0, 1) ∧ 14 + 1 = 15 := by decide +kernel
theorem e_X0_propsWanting_15 : decode cX0_propsWanting 15 = .ok (.getfield 18, 3) ∧ 15 + 3 = 18 := by decide +kernel
theorem e_X0_propsWanting_18 : decode cX0_propsWanting 18 = .ok (.arraylength, 1) ∧ 18 + 1 = 19 := by decide +kernel
theorem e_X0_propsWanting_19 : decode cX0_propsWanting 19 = .ok (.if_icmp .ge 34, 3) ∧ 19 + 3 = 22 ∧ ((19 : Nat) : Int) + (34) = ((53 : Nat) : Int) := by decide +kernel
theorem e_X0_propsWanting_22 : decode cX0_propsWanting 22 = .ok (.iload_n 1, 1) ∧ 22 + 1 = 23 := by decide +kernel
theorem e_X0_propsWanting_23 : decode cX0_propsWanting 23 = .ok (.iconst 0, 1) ∧ 23 + 1 = 24 := by decide +kernel
theorem e_X0_propsWanting_24 : decode cX0_propsWanting 24 = .ok (.aload_n 0, 1) ∧ 24 + 1 = 25 := by decide +kernel
theorem e_X0_propsWanting_25 : decode cX0_propsWanting 25 = .ok (.getfield 15, 3) ∧ 25 + 3 = 28 := by decide +kernel
theorem e_X0_propsWanting_28 : decode cX0_propsWanting 28 = .ok (.iload_n 2, 1) ∧ 28 + 1 = 29 := by decide +kernel
theorem e_X0_propsWanting_29 : decode cX0_propsWanting 29 = .ok (.iaload, 1) ∧ 29 + 1 = 30 := by decide +kernel
theorem e_X0_propsWanting_30 : decode cX0_propsWanting 30 = .ok (.aload_n 0, 1) ∧ 30 + 1 = 31 := by decide +kernel
theorem e_X0_propsWanting_31 : decode cX0_propsWanting 31 = .ok (.getfield 27, 3) ∧ 31 + 3 = 34 := by decide +kernel
theorem e_X0_propsWanting_34 : decode cX0_propsWanting 34 = .ok (.isub, 1) ∧ 34 + 1 = 35 := by decide +kernel
theorem e_X0_propsWanting_35 : decode cX0_propsWanting 35 = .ok (.aload_n 0, 1) ∧ 35 + 1 = 36 := by decide +kernel
theorem e_X0_propsWanting_36 : decode cX0_propsWanting 36 = .ok (.getfield 18, 3) ∧ 36 + 3 = 39 := by decide +kernel
theorem e_X0_propsWanting_39 : decode cX0_propsWanting 39 = .ok (.iload_n 2, 1) ∧ 39 + 1 = 40 := by decide +kernel
theorem e_X0_propsWanting_40 : decode cX0_propsWanting 40 = .ok (.iaload, 1) ∧ 40 + 1 = 41 := by decide +kernel
theorem e_X0_propsWanting_41 : decode cX0_propsWanting 41 = .ok (.isub, 1) ∧ 41 + 1 = 42 := by decide +kernel
theorem e_X0_propsWanting_42 : decode cX0_propsWanting 42 = .ok (.invokestatic 111, 3) ∧ 42 + 3 = 45 := by decide +kernel
theorem e_X0_propsWanting_45 : decode cX0_propsWanting 45 = .ok (.iadd, 1) ∧ 45 + 1 = 46 := by decide +kernel
theorem e_X0_propsWanting_46 : decode cX0_propsWanting 46 = .ok (.istore_n 1, 1) ∧ 46 + 1 = 47 := by decide +kernel
theorem e_X0_propsWanting_47 : decode cX0_propsWanting 47 = .ok (.iinc 2 1, 3) ∧ 47 + 3 = 50 := by decide +kernel
theorem e_X0_propsWanting_50 : decode cX0_propsWanting 50 = .ok (.goto (-46), 3) ∧ 50 + 3 = 53 ∧ ((50 : Nat) : Int) + (-46) = ((4 : Nat) : Int) := by decide +kernel
theorem e_X0_propsWanting_53 : decode cX0_propsWanting 53 = .ok (.iload_n 1, 1) ∧ 53 + 1 = 54 := by decide +kernel
theorem e_X0_propsWanting_54 : decode cX0_propsWanting 54 = .ok (.ireturn, 1) := by decide +kernel
theorem e_X0_loosen_0 : decode cX0_loosen 0 = .ok (.iload_n 1, 1) ∧ 0 + 1 = 1 := by decide +kernel
theorem e_X0_loosen_1 : decode cX0_loosen 1 = .ok (.aload_n 0, 1) ∧ 1 + 1 = 2 := by decide +kernel
theorem e_X0_loosen_2 : decode cX0_loosen 2 = .ok (.getfield 44, 3) ∧ 2 + 3 = 5 := by decide +kernel
theorem e_X0_loosen_5 : decode cX0_loosen 5 = .ok (.iconst (-1), 1) ∧ 5 + 1 = 6 := by decide +kernel
theorem e_X0_loosen_6 : decode cX0_loosen 6 = .ok (.ixor, 1) ∧ 6 + 1 = 7 := by decide +kernel
theorem e_X0_loosen_7 : decode cX0_loosen 7 = .ok (.iand, 1) ∧ 7 + 1 = 8 := by decide +kernel
theorem e_X0_loosen_8 : decode cX0_loosen 8 = .ok (.istore_n 3, 1) ∧ 8 + 1 = 9 := by decide +kernel
theorem e_X0_loosen_9 : decode cX0_loosen 9 = .ok (.iconst 0, 1) ∧ 9 + 1 = 10 := by decide +kernel
theorem e_X0_loosen_10 : decode cX0_loosen 10 = .ok (.istore 4, 2) ∧ 10 + 2 = 12 := by decide +kernel
theorem e_X0_loosen_12 : decode cX0_loosen 12 = .ok (.iload 4, 2) ∧ 12 + 2 = 14 := by decide +kernel
theorem e_X0_loosen_14 : decode cX0_loosen 14 = .ok (.aload_n 0, 1) ∧ 14 + 1 = 15 := by decide +kernel
theorem e_X0_loosen_15 : decode cX0_loosen 15 = .ok (.getfield 15, 3) ∧ 15 + 3 = 18 := by decide +kernel
theorem e_X0_loosen_18 : decode cX0_loosen 18 = .ok (.arraylength, 1) ∧ 18 + 1 = 19 := by decide +kernel
theorem e_X0_loosen_19 : decode cX0_loosen 19 = .ok (.if_icmp .ge 39, 3) ∧ 19 + 3 = 22 ∧ ((19 : Nat) : Int) + (39) = ((58 : Nat) : Int) := by decide +kernel
theorem e_X0_loosen_22 : decode cX0_loosen 22 = .ok (.iload_n 3, 1) ∧ 22 + 1 = 23 := by decide +kernel
theorem e_X0_loosen_23 : decode cX0_loosen 23 = .ok (.iload 4, 2) ∧ 23 + 2 = 25 := by decide +kernel
theorem e_X0_loosen_25 : decode cX0_loosen 25 = .ok (.ishr, 1) ∧ 25 + 1 = 26 := by decide +kernel
theorem e_X0_loosen_26 : decode cX0_loosen 26 = .ok (.iconst 1, 1) ∧ 26 + 1 = 27 := by decide +kernel
theorem e_X0_loosen_27 : decode cX0_loosen 27 = .ok (.iand, 1) ∧ 27 + 1 = 28 := by decide +kernel
theorem e_X0_loosen_28 : decode cX0_loosen 28 = .ok (.ifCond .eq 24, 3) ∧ 28 + 3 = 31 ∧ ((28 : Nat) : Int) + (24) = ((52 : Nat) : Int) := by decide +kernel
theorem e_X0_loosen_31 : decode cX0_loosen 31 = .ok (.aload_n 0, 1) ∧ 31 + 1 = 32 := by decide +kernel
theorem e_X0_loosen_32 : decode cX0_loosen 32 = .ok (.getfield 15, 3) ∧ 32 + 3 = 35 := by decide +kernel
theorem e_X0_loosen_35 : decode cX0_loosen 35 = .ok (.iload 4, 2) ∧ 35 + 2 = 37 := by decide +kernel
theorem e_X0_loosen_37 : decode cX0_loosen 37 = .ok (.bipush 99, 2) ∧ 37 + 2 = 39 := by decide +kernel
theorem e_X0_loosen_39 : decode cX0_loosen 39 = .ok (.aload_n 0, 1) ∧ 39 + 1 = 40 := by decide +kernel
theorem e_X0_loosen_40 : decode cX0_loosen 40 = .ok (.getfield 15, 3) ∧ 40 + 3 = 43 := by decide +kernel
theorem e_X0_loosen_43 : decode cX0_loosen 43 = .ok (.iload 4, 2) ∧ 43 + 2 = 45 := by decide +kernel
theorem e_X0_loosen_45 : decode cX0_loosen 45 = .ok (.iaload, 1) ∧ 45 + 1 = 46 := by decide +kernel
theorem e_X0_loosen_46 : decode cX0_loosen 46 = .ok (.iload_n 2, 1) ∧ 46 + 1 = 47 := by decide +kernel
theorem e_X0_loosen_47 : decode cX0_loosen 47 = .ok (.iadd, 1) ∧ 47 + 1 = 48 := by decide +kernel
theorem e_X0_loosen_48 : decode cX0_loosen 48 = .ok (.invokestatic 117, 3) ∧ 48 + 3 = 51 := by decide +kernel
theorem e_X0_loosen_51 : decode cX0_loosen 51 = .ok (.iastore, 1) ∧ 51 + 1 = 52 := by decide +kernel
theorem e_X0_loosen_52 : decode cX0_loosen 52 = .ok (.iinc 4 1, 3) ∧ 52 + 3 = 55 := by decide +kernel
theorem e_X0_loosen_55 : decode cX0_loosen 55 = .ok (.goto (-43), 3) ∧ 55 + 3 = 58 ∧ ((55 : Nat) : Int) + (-43) = ((12 : Nat) : Int) := by decide +kernel
theorem e_X0_loosen_58 : decode cX0_loosen 58 = .ok (.return_, 1) := by decide +kernel
theorem e_X0_waves_0 : decode cX0_waves 0 = .ok (.aload_n 0, 1) ∧ 0 + 1 = 1 := by decide +kernel
theorem e_X0_waves_1 : decode cX0_waves 1 = .ok (.getfield 44, 3) ∧ 1 + 3 = 4 := by decide +kernel
theorem e_X0_waves_4 : decode cX0_waves 4 = .ok (.istore_n 1, 1) ∧ 4 + 1 = 5 := by decide +kernel
theorem e_X0_waves_5 : decode cX0_waves 5 = .ok (.iconst 0, 1) ∧ 5 + 1 = 6 := by decide +kernel
theorem e_X0_waves_6 : decode cX0_waves 6 = .ok (.istore_n 2, 1) ∧ 6 + 1 = 7 := by decide +kernel
theorem e_X0_waves_7 : decode cX0_waves 7 = .ok (.iload_n 2, 1) ∧ 7 + 1 = 8 := by decide +kernel
theorem e_X0_waves_8 : decode cX0_waves 8 = .ok (.bipush 12, 2) ∧ 8 + 2 = 10 := by decide +kernel
theorem e_X0_waves_10 : decode cX0_waves 10 = .ok (.if_icmp .ge 26, 3) ∧ 10 + 3 = 13 ∧ ((10 : Nat) : Int) + (26) = ((36 : Nat) : Int) := by decide +kernel
theorem e_X0_waves_13 : decode cX0_waves 13 = .ok (.aload_n 0, 1) ∧ 13 + 1 = 14 := by decide +kernel
theorem e_X0_waves_14 : decode cX0_waves 14 = .ok (.invokevirtual 120, 3) ∧ 14 + 3 = 17 := by decide +kernel
theorem e_X0_waves_17 : decode cX0_waves 17 = .ok (.istore_n 3, 1) ∧ 17 + 1 = 18 := by decide +kernel
theorem e_X0_waves_18 : decode cX0_waves 18 = .ok (.iload_n 3, 1) ∧ 18 + 1 = 19 := by decide +kernel
theorem e_X0_waves_19 : decode cX0_waves 19 = .ok (.ifCond .ne 6, 3) ∧ 19 + 3 = 22 ∧ ((19 : Nat) : Int) + (6) = ((25 : Nat) : Int) := by decide +kernel
theorem e_X0_waves_22 : decode cX0_waves 22 = .ok (.goto 14, 3) ∧ 22 + 3 = 25 ∧ ((22 : Nat) : Int) + (14) = ((36 : Nat) : Int) := by decide +kernel
theorem e_X0_waves_25 : decode cX0_waves 25 = .ok (.aload_n 0, 1) ∧ 25 + 1 = 26 := by decide +kernel
theorem e_X0_waves_26 : decode cX0_waves 26 = .ok (.iload_n 3, 1) ∧ 26 + 1 = 27 := by decide +kernel
theorem e_X0_waves_27 : decode cX0_waves 27 = .ok (.invokevirtual 123, 3) ∧ 27 + 3 = 30 := by decide +kernel
theorem e_X0_waves_30 : decode cX0_waves 30 = .ok (.iinc 2 1, 3) ∧ 30 + 3 = 33 := by decide +kernel
theorem e_X0_waves_33 : decode cX0_waves 33 = .ok (.goto (-26), 3) ∧ 33 + 3 = 36 ∧ ((33 : Nat) : Int) + (-26) = ((7 : Nat) : Int) := by decide +kernel
theorem e_X0_waves_36 : decode cX0_waves 36 = .ok (.aload_n 0, 1) ∧ 36 + 1 = 37 := by decide +kernel
theorem e_X0_waves_37 : decode cX0_waves 37 = .ok (.getfield 44, 3) ∧ 37 + 3 = 40 := by decide +kernel
theorem e_X0_waves_40 : decode cX0_waves 40 = .ok (.iload_n 1, 1) ∧ 40 + 1 = 41 := by decide +kernel
theorem e_X0_waves_41 : decode cX0_waves 41 = .ok (.iconst (-1), 1) ∧ 41 + 1 = 42 := by decide +kernel
theorem e_X0_waves_42 : decode cX0_waves 42 = .ok (.ixor, 1) ∧ 42 + 1 = 43 := by decide +kernel
theorem e_X0_waves_43 : decode cX0_waves 43 = .ok (.iand, 1) ∧ 43 + 1 = 44 := by decide +kernel
theorem e_X0_waves_44 : decode cX0_waves 44 = .ok (.ireturn, 1) := by decide +kernel
theorem e_X0_tooLoose_0 : decode cX0_tooLoose 0 = .ok (.iconst 0, 1) ∧ 0 + 1 = 1 := by decide +kernel
theorem e_X0_tooLoose_1 : decode cX0_tooLoose 1 = .ok (.istore_n 1, 1) ∧ 1 + 1 = 2 := by decide +kernel
theorem e_X0_tooLoose_2 : decode cX0_tooLoose 2 = .ok (.iconst 0, 1) ∧ 2 + 1 = 3 := by decide +kernel
theorem e_X0_tooLoose_3 : decode cX0_tooLoose 3 = .ok (.istore_n 2, 1) ∧ 3 + 1 = 4 := by decide +kernel
theorem e_X0_tooLoose_4 : decode cX0_tooLoose 4 = .ok (.iload_n 2, 1) ∧ 4 + 1 = 5 := by decide +kernel
theorem e_X0_tooLoose_5 : decode cX0_tooLoose 5 = .ok (.aload_n 0, 1) ∧ 5 + 1 = 6 := by decide +kernel
theorem e_X0_tooLoose_6 : decode cX0_tooLoose 6 = .ok (.getfield 15, 3) ∧ 6 + 3 = 9 := by decide +kernel
theorem e_X0_tooLoose_9 : decode cX0_tooLoose 9 = .ok (.arraylength, 1) ∧ 9 + 1 = 10 := by decide +kernel
theorem e_X0_tooLoose_10 : decode cX0_tooLoose 10 = .ok (.if_icmp .ge 44, 3) ∧ 10 + 3 = 13 ∧ ((10 : Nat) : Int) + (44) = ((54 : Nat) : Int) := by decide +kernel
theorem e_X0_tooLoose_13 : decode cX0_tooLoose 13 = .ok (.iload_n 2, 1) ∧ 13 + 1 = 14 := by decide +kernel
theorem e_X0_tooLoose_14 : decode cX0_tooLoose 14 = .ok (.aload_n 0, 1) ∧ 14 + 1 = 15 := by decide +kernel
theorem e_X0_tooLoose_15 : decode cX0_tooLoose 15 = .ok (.getfield 18, 3) ∧ 15 + 3 = 18 := by decide +kernel
theorem e_X0_tooLoose_18 : decode cX0_tooLoose 18 = .ok (.arraylength, 1) ∧ 18 + 1 = 19 := by decide +kernel
theorem e_X0_tooLoose_19 : decode cX0_tooLoose 19 = .ok (.if_icmp .ge 35, 3) ∧ 19 + 3 = 22 ∧ ((19 : Nat) : Int) + (35) = ((54 : Nat) : Int) := by decide +kernel
theorem e_X0_tooLoose_22 : decode cX0_tooLoose 22 = .ok (.aload_n 0, 1) ∧ 22 + 1 = 23 := by decide +kernel
theorem e_X0_tooLoose_23 : decode cX0_tooLoose 23 = .ok (.getfield 15, 3) ∧ 23 + 3 = 26 := by decide +kernel
theorem e_X0_tooLoose_26 : decode cX0_tooLoose 26 = .ok (.iload_n 2, 1) ∧ 26 + 1 = 27 := by decide +kernel
theorem e_X0_tooLoose_27 : decode cX0_tooLoose 27 = .ok (.iaload, 1) ∧ 27 + 1 = 28 := by decide +kernel
theorem e_X0_tooLoose_28 : decode cX0_tooLoose 28 = .ok (.aload_n 0, 1) ∧ 28 + 1 = 29 := by decide +kernel
theorem e_X0_tooLoose_29 : decode cX0_tooLoose 29 = .ok (.getfield 27, 3) ∧ 29 + 3 = 32 := by decide +kernel
theorem e_X0_tooLoose_32 : decode cX0_tooLoose 32 = .ok (.aload_n 0, 1) ∧ 32 + 1 = 33 := by decide +kernel
theorem e_X0_tooLoose_33 : decode cX0_tooLoose 33 = .ok (.getfield 18, 3) ∧ 33 + 3 = 36 := by decide +kernel
theorem e_X0_tooLoose_36 : decode cX0_tooLoose 36 = .ok (.iload_n 2, 1) ∧ 36 + 1 = 37 := by decide +kernel
theorem e_X0_tooLoose_37 : decode cX0_tooLoose 37 = .ok (.iaload, 1) ∧ 37 + 1 = 38 := by decide +kernel
theorem e_X0_tooLoose_38 : decode cX0_tooLoose 38 = .ok (.iadd, 1) ∧ 38 + 1 = 39 := by decide +kernel
theorem e_X0_tooLoose_39 : decode cX0_tooLoose 39 = .ok (.if_icmp .le 9, 3) ∧ 39 + 3 = 42 ∧ ((39 : Nat) : Int) + (9) = ((48 : Nat) : Int) := by decide +kernel
theorem e_X0_tooLoose_42 : decode cX0_tooLoose 42 = .ok (.iload_n 1, 1) ∧ 42 + 1 = 43 := by decide +kernel
theorem e_X0_tooLoose_43 : decode cX0_tooLoose 43 = .ok (.iconst 1, 1) ∧ 43 + 1 = 44 := by decide +kernel
theorem e_X0_tooLoose_44 : decode cX0_tooLoose 44 = .ok (.iload_n 2, 1) ∧ 44 + 1 = 45 := by decide +kernel
theorem e_X0_tooLoose_45 : decode cX0_tooLoose 45 = .ok (.ishl, 1) ∧ 45 + 1 = 46 := by decide +kernel
theorem e_X0_tooLoose_46 : decode cX0_tooLoose 46 = .ok (.ior, 1) ∧ 46 + 1 = 47 := by decide +kernel
theorem e_X0_tooLoose_47 : decode cX0_tooLoose 47 = .ok (.istore_n 1, 1) ∧ 47 + 1 = 48 := by decide +kernel
theorem e_X0_tooLoose_48 : decode cX0_tooLoose 48 = .ok (.iinc 2 1, 3) ∧ 48 + 3 = 51 := by decide +kernel
theorem e_X0_tooLoose_51 : decode cX0_tooLoose 51 = .ok (.goto (-47), 3) ∧ 51 + 3 = 54 ∧ ((51 : Nat) : Int) + (-47) = ((4 : Nat) : Int) := by decide +kernel
theorem e_X0_tooLoose_54 : decode cX0_tooLoose 54 = .ok (.iload_n 1, 1) ∧ 54 + 1 = 55 := by decide +kernel
theorem e_X0_tooLoose_55 : decode cX0_tooLoose 55 = .ok (.ireturn, 1) := by decide +kernel
theorem e_X0_fell_0 : decode cX0_fell 0 = .ok (.aload_n 0, 1) ∧ 0 + 1 = 1 := by decide +kernel
theorem e_X0_fell_1 : decode cX0_fell 1 = .ok (.dup, 1) ∧ 1 + 1 = 2 := by decide +kernel
theorem e_X0_fell_2 : decode cX0_fell 2 = .ok (.getfield 44, 3) ∧ 2 + 3 = 5 := by decide +kernel
theorem e_X0_fell_5 : decode cX0_fell 5 = .ok (.iload_n 1, 1) ∧ 5 + 1 = 6 := by decide +kernel
theorem e_X0_fell_6 : decode cX0_fell 6 = .ok (.ior, 1) ∧ 6 + 1 = 7 := by decide +kernel
theorem e_X0_fell_7 : decode cX0_fell 7 = .ok (.putfield 44, 3) ∧ 7 + 3 = 10 := by decide +kernel
theorem e_X0_fell_10 : decode cX0_fell 10 = .ok (.aload_n 0, 1) ∧ 10 + 1 = 11 := by decide +kernel
theorem e_X0_fell_11 : decode cX0_fell 11 = .ok (.dup, 1) ∧ 11 + 1 = 12 := by decide +kernel
theorem e_X0_fell_12 : decode cX0_fell 12 = .ok (.getfield 41, 3) ∧ 12 + 3 = 15 := by decide +kernel
theorem e_X0_fell_15 : decode cX0_fell 15 = .ok (.aload_n 0, 1) ∧ 15 + 1 = 16 := by decide +kernel
theorem e_X0_fell_16 : decode cX0_fell 16 = .ok (.iload_n 1, 1) ∧ 16 + 1 = 17 := by decide +kernel
theorem e_X0_fell_17 : decode cX0_fell 17 = .ok (.invokevirtual 86, 3) ∧ 17 + 3 = 20 := by decide +kernel
theorem e_X0_fell_20 : decode cX0_fell 20 = .ok (.ior, 1) ∧ 20 + 1 = 21 := by decide +kernel
theorem e_X0_fell_21 : decode cX0_fell 21 = .ok (.putfield 41, 3) ∧ 21 + 3 = 24 := by decide +kernel
theorem e_X0_fell_24 : decode cX0_fell 24 = .ok (.iconst 0, 1) ∧ 24 + 1 = 25 := by decide +kernel
theorem e_X0_fell_25 : decode cX0_fell 25 = .ok (.istore_n 2, 1) ∧ 25 + 1 = 26 := by decide +kernel
theorem e_X0_fell_26 : decode cX0_fell 26 = .ok (.iload_n 2, 1) ∧ 26 + 1 = 27 := by decide +kernel
theorem e_X0_fell_27 : decode cX0_fell 27 = .ok (.bipush 12, 2) ∧ 27 + 2 = 29 := by decide +kernel
theorem e_X0_fell_29 : decode cX0_fell 29 = .ok (.if_icmp .ge 51, 3) ∧ 29 + 3 = 32 ∧ ((29 : Nat) : Int) + (51) = ((80 : Nat) : Int) := by decide +kernel
theorem e_X0_fell_32 : decode cX0_fell 32 = .ok (.iload_n 1, 1) ∧ 32 + 1 = 33 := by decide +kernel
theorem e_X0_fell_33 : decode cX0_fell 33 = .ok (.iload_n 2, 1) ∧ 33 + 1 = 34 := by decide +kernel
theorem e_X0_fell_34 : decode cX0_fell 34 = .ok (.invokestatic 59, 3) ∧ 34 + 3 = 37 := by decide +kernel
theorem e_X0_fell_37 : decode cX0_fell 37 = .ok (.ifCond .eq 37, 3) ∧ 37 + 3 = 40 ∧ ((37 : Nat) : Int) + (37) = ((74 : Nat) : Int) := by decide +kernel
theorem e_X0_fell_40 : decode cX0_fell 40 = .ok (.aload_n 0, 1) ∧ 40 + 1 = 41 := by decide +kernel
theorem e_X0_fell_41 : decode cX0_fell 41 = .ok (.dup, 1) ∧ 41 + 1 = 42 := by decide +kernel
theorem e_X0_fell_42 : decode cX0_fell 42 = .ok (.getfield 47, 3) ∧ 42 + 3 = 45 := by decide +kernel
theorem e_X0_fell_45 : decode cX0_fell 45 = .ok (.aload_n 0, 1) ∧ 45 + 1 = 46 := by decide +kernel
theorem e_X0_fell_46 : decode cX0_fell 46 = .ok (.getfield 9, 3) ∧ 46 + 3 = 49 := by decide +kernel
theorem e_X0_fell_49 : decode cX0_fell 49 = .ok (.iload_n 2, 1) ∧ 49 + 1 = 50 := by decide +kernel
theorem e_X0_fell_50 : decode cX0_fell 50 = .ok (.invokestatic 67, 3) ∧ 50 + 3 = 53 := by decide +kernel
theorem e_X0_fell_53 : decode cX0_fell 53 = .ok (.iadd, 1) ∧ 53 + 1 = 54 := by decide +kernel
theorem e_X0_fell_54 : decode cX0_fell 54 = .ok (.putfield 47, 3) ∧ 54 + 3 = 57 := by decide +kernel
theorem e_X0_fell_57 : decode cX0_fell 57 = .ok (.aload_n 0, 1) ∧ 57 + 1 = 58 := by decide +kernel
theorem e_X0_fell_58 : decode cX0_fell 58 = .ok (.iload_n 2, 1) ∧ 58 + 1 = 59 := by decide +kernel
theorem e_X0_fell_59 : decode cX0_fell 59 = .ok (.invokevirtual 31, 3) ∧ 59 + 3 = 62 := by decide +kernel
theorem e_X0_fell_62 : decode cX0_fell 62 = .ok (.aload_n 0, 1) ∧ 62 + 1 = 63 := by decide +kernel
theorem e_X0_fell_63 : decode cX0_fell 63 = .ok (.getstatic 83, 3) ∧ 63 + 3 = 66 := by decide +kernel
theorem e_X0_fell_66 : decode cX0_fell 66 = .ok (.iload_n 2, 1) ∧ 66 + 1 = 67 := by decide +kernel
theorem e_X0_fell_67 : decode cX0_fell 67 = .ok (.invokestatic 67, 3) ∧ 67 + 3 = 70 := by decide +kernel
theorem e_X0_fell_70 : decode cX0_fell 70 = .ok (.iconst 1, 1) ∧ 70 + 1 = 71 := by decide +kernel
theorem e_X0_fell_71 : decode cX0_fell 71 = .ok (.invokevirtual 101, 3) ∧ 71 + 3 = 74 := by decide +kernel
theorem e_X0_fell_74 : decode cX0_fell 74 = .ok (.iinc 2 1, 3) ∧ 74 + 3 = 77 := by decide +kernel
theorem e_X0_fell_77 : decode cX0_fell 77 = .ok (.goto (-51), 3) ∧ 77 + 3 = 80 ∧ ((77 : Nat) : Int) + (-51) = ((26 : Nat) : Int) := by decide +kernel
theorem e_X0_fell_80 : decode cX0_fell 80 = .ok (.return_, 1) := by decide +kernel
theorem e_X0_empty_0 : decode cX0_empty 0 = .ok (.aload_n 0, 1) ∧ 0 + 1 = 1 := by decide +kernel
theorem e_X0_empty_1 : decode cX0_empty 1 = .ok (.getfield 9, 3) ∧ 1 + 3 = 4 := by decide +kernel
theorem e_X0_empty_4 : decode cX0_empty 4 = .ok (.iload_n 1, 1) ∧ 4 + 1 = 5 := by decide +kernel
theorem e_X0_empty_5 : decode cX0_empty 5 = .ok (.iconst 0, 1) ∧ 5 + 1 = 6 := by decide +kernel
theorem e_X0_empty_6 : decode cX0_empty 6 = .ok (.invokestatic 71, 3) ∧ 6 + 3 = 9 := by decide +kernel
theorem e_X0_empty_9 : decode cX0_empty 9 = .ok (.aload_n 0, 1) ∧ 9 + 1 = 10 := by decide +kernel
theorem e_X0_empty_10 : decode cX0_empty 10 = .ok (.getfield 15, 3) ∧ 10 + 3 = 13 := by decide +kernel
theorem e_X0_empty_13 : decode cX0_empty 13 = .ok (.iload_n 1, 1) ∧ 13 + 1 = 14 := by decide +kernel
theorem e_X0_empty_14 : decode cX0_empty 14 = .ok (.iconst 0, 1) ∧ 14 + 1 = 15 := by decide +kernel
theorem e_X0_empty_15 : decode cX0_empty 15 = .ok (.invokestatic 71, 3) ∧ 15 + 3 = 18 := by decide +kernel
theorem e_X0_empty_18 : decode cX0_empty 18 = .ok (.aload_n 0, 1) ∧ 18 + 1 = 19 := by decide +kernel
theorem e_X0_empty_19 : decode cX0_empty 19 = .ok (.getfield 18, 3) ∧ 19 + 3 = 22 := by decide +kernel
theorem e_X0_empty_22 : decode cX0_empty 22 = .ok (.iload_n 1, 1) ∧ 22 + 1 = 23 := by decide +kernel
theorem e_X0_empty_23 : decode cX0_empty 23 = .ok (.iconst 0, 1) ∧ 23 + 1 = 24 := by decide +kernel
theorem e_X0_empty_24 : decode cX0_empty 24 = .ok (.invokestatic 71, 3) ∧ 24 + 3 = 27 := by decide +kernel
theorem e_X0_empty_27 : decode cX0_empty 27 = .ok (.aload_n 0, 1) ∧ 27 + 1 = 28 := by decide +kernel
theorem e_X0_empty_28 : decode cX0_empty 28 = .ok (.getfield 21, 3) ∧ 28 + 3 = 31 := by decide +kernel
theorem e_X0_empty_31 : decode cX0_empty 31 = .ok (.iload_n 1, 1) ∧ 31 + 1 = 32 := by decide +kernel
theorem e_X0_empty_32 : decode cX0_empty 32 = .ok (.iconst 0, 1) ∧ 32 + 1 = 33 := by decide +kernel
theorem e_X0_empty_33 : decode cX0_empty 33 = .ok (.invokestatic 71, 3) ∧ 33 + 3 = 36 := by decide +kernel
theorem e_X0_empty_36 : decode cX0_empty 36 = .ok (.return_, 1) := by decide +kernel
theorem e_X1_init_0 : decode cX1_init 0 = .ok (.aload_n 0, 1) ∧ 0 + 1 = 1 := by decide +kernel
theorem e_X1_init_1 : decode cX1_init 1 = .ok (.invokespecial 3, 3) ∧ 1 + 3 = 4 := by decide +kernel
theorem e_X1_init_4 : decode cX1_init 4 = .ok (.aload_n 0, 1) ∧ 4 + 1 = 5 := by decide +kernel
theorem e_X1_init_5 : decode cX1_init 5 = .ok (.new 9, 3) ∧ 5 + 3 = 8 := by decide +kernel
theorem e_X1_init_8 : decode cX1_init 8 = .ok (.dup, 1) ∧ 8 + 1 = 9 := by decide +kernel
theorem e_X1_init_9 : decode cX1_init 9 = .ok (.invokespecial 11, 3) ∧ 9 + 3 = 12 := by decide +kernel
theorem e_X1_init_12 : decode cX1_init 12 = .ok (.putfield 12, 3) ∧ 12 + 3 = 15 := by decide +kernel
theorem e_X1_init_15 : decode cX1_init 15 = .ok (.return_, 1) := by decide +kernel
theorem e_X1_start_0 : decode cX1_start 0 = .ok (.aload_n 0, 1) ∧ 0 + 1 = 1 := by decide +kernel
theorem e_X1_start_1 : decode cX1_start 1 = .ok (.getfield 12, 3) ∧ 1 + 3 = 4 := by decide +kernel
theorem e_X1_start_4 : decode cX1_start 4 = .ok (.invokevirtual 18, 3) ∧ 4 + 3 = 7 := by decide +kernel
theorem e_X1_start_7 : decode cX1_start 7 = .ok (.aload_n 0, 1) ∧ 7 + 1 = 8 := by decide +kernel
theorem e_X1_start_8 : decode cX1_start 8 = .ok (.iconst 0, 1) ∧ 8 + 1 = 9 := by decide +kernel
theorem e_X1_start_9 : decode cX1_start 9 = .ok (.putfield 21, 3) ∧ 9 + 3 = 12 := by decide +kernel
theorem e_X1_start_12 : decode cX1_start 12 = .ok (.aload_n 0, 1) ∧ 12 + 1 = 13 := by decide +kernel
theorem e_X1_start_13 : decode cX1_start 13 = .ok (.iconst 0, 1) ∧ 13 + 1 = 14 := by decide +kernel
theorem e_X1_start_14 : decode cX1_start 14 = .ok (.putfield 25, 3) ∧ 14 + 3 = 17 := by decide +kernel
theorem e_X1_start_17 : decode cX1_start 17 = .ok (.aload_n 0, 1) ∧ 17 + 1 = 18 := by decide +kernel
theorem e_X1_start_18 : decode cX1_start 18 = .ok (.iconst 0, 1) ∧ 18 + 1 = 19 := by decide +kernel
theorem e_X1_start_19 : decode cX1_start 19 = .ok (.putfield 28, 3) ∧ 19 + 3 = 22 := by decide +kernel
theorem e_X1_start_22 : decode cX1_start 22 = .ok (.return_, 1) := by decide +kernel
theorem e_X1_mayEnd_0 : decode cX1_mayEnd 0 = .ok (.aload_n 0, 1) ∧ 0 + 1 = 1 := by decide +kernel
theorem e_X1_mayEnd_1 : decode cX1_mayEnd 1 = .ok (.getfield 21, 3) ∧ 1 + 3 = 4 := by decide +kernel
theorem e_X1_mayEnd_4 : decode cX1_mayEnd 4 = .ok (.iconst 2, 1) ∧ 4 + 1 = 5 := by decide +kernel
theorem e_X1_mayEnd_5 : decode cX1_mayEnd 5 = .ok (.if_icmp .ne 7, 3) ∧ 5 + 3 = 8 ∧ ((5 : Nat) : Int) + (7) = ((12 : Nat) : Int) := by decide +kernel
theorem e_X1_mayEnd_8 : decode cX1_mayEnd 8 = .ok (.iconst 1, 1) ∧ 8 + 1 = 9 := by decide +kernel
theorem e_X1_mayEnd_9 : decode cX1_mayEnd 9 = .ok (.goto 4, 3) ∧ 9 + 3 = 12 ∧ ((9 : Nat) : Int) + (4) = ((13 : Nat) : Int) := by decide +kernel
theorem e_X1_mayEnd_12 : decode cX1_mayEnd 12 = .ok (.iconst 0, 1) ∧ 12 + 1 = 13 := by decide +kernel
theorem e_X1_mayEnd_13 : decode cX1_mayEnd 13 = .ok (.ireturn, 1) := by decide +kernel
theorem e_X1_accepts_0 : decode cX1_accepts 0 = .ok (.aload_n 0, 1) ∧ 0 + 1 = 1 := by decide +kernel
theorem e_X1_accepts_1 : decode cX1_accepts 1 = .ok (.getfield 21, 3) ∧ 1 + 3 = 4 := by decide +kernel
theorem e_X1_accepts_4 : decode cX1_accepts 4 = .ok (.tableswitch 310 0 10 #[60, 80, 86, 92, 121, 149, 182, 215, 247, 274, 301], 60) := by decide +kernel
theorem e_X1_accepts_64 : decode cX1_accepts 64 = .ok (.iload_n 1, 1) ∧ 64 + 1 = 65 := by decide +kernel
theorem e_X1_accepts_65 : decode cX1_accepts 65 = .ok (.bipush 77, 2) ∧ 65 + 2 = 67 := by decide +kernel
theorem e_X1_accepts_67 : decode cX1_accepts 67 = .ok (.if_icmp .ne 15, 3) ∧ 67 + 3 = 70 ∧ ((67 : Nat) : Int) + (15) = ((82 : Nat) : Int) := by decide +kernel
theorem e_X1_accepts_70 : decode cX1_accepts 70 = .ok (.aload_n 0, 1) ∧ 70 + 1 = 71 := by decide +kernel
theorem e_X1_accepts_71 : decode cX1_accepts 71 = .ok (.iconst 1, 1) ∧ 71 + 1 = 72 := by decide +kernel
theorem e_X1_accepts_72 : decode cX1_accepts 72 = .ok (.invokevirtual 31, 3) ∧ 72 + 3 = 75 := by decide +kernel
theorem e_X1_accepts_75 : decode cX1_accepts 75 = .ok (.ifCond .eq 7, 3) ∧ 75 + 3 = 78 ∧ ((75 : Nat) : Int) + (7) = ((82 : Nat) : Int) := by decide +kernel
theorem e_X1_accepts_78 : decode cX1_accepts 78 = .ok (.iconst 1, 1) ∧ 78 + 1 = 79 := by decide +kernel
theorem e_X1_accepts_79 : decode cX1_accepts 79 = .ok (.goto 4, 3) ∧ 79 + 3 = 82 ∧ ((79 : Nat) : Int) + (4) = ((83 : Nat) : Int) := by decide +kernel
theorem e_X1_accepts_82 : decode cX1_accepts 82 = .ok (.iconst 0, 1) ∧ 82 + 1 = 83 := by decide +kernel
theorem e_X1_accepts_83 : decode cX1_accepts 83 = .ok (.ireturn, 1) := by decide +kernel
theorem e_X1_accepts_84 : decode cX1_accepts 84 = .ok (.aload_n 0, 1) ∧ 84 + 1 = 85 := by decide +kernel
theorem e_X1_accepts_85 : decode cX1_accepts 85 = .ok (.iload_n 1, 1) ∧ 85 + 1 = 86 := by decide +kernel
theorem e_X1_accepts_86 : decode cX1_accepts 86 = .ok (.invokevirtual 35, 3) ∧ 86 + 3 = 89 := by decide +kernel
theorem e_X1_accepts_89 : decode cX1_accepts 89 = .ok (.ireturn, 1) := by decide +kernel
theorem e_X1_accepts_90 : decode cX1_accepts 90 = .ok (.aload_n 0, 1) ∧ 90 + 1 = 91 := by decide +kernel
theorem e_X1_accepts_91 : decode cX1_accepts 91 = .ok (.iload_n 1, 1) ∧ 91 + 1 = 92 := by decide +kernel
theorem e_X1_accepts_92 : decode cX1_accepts 92 = .ok (.invokevirtual 38, 3) ∧ 92 + 3 = 95 := by decide +kernel
theorem e_X1_accepts_95 : decode cX1_accepts 95 = .ok (.ireturn, 1) := by decide +kernel
theorem e_X1_accepts_96 : decode cX1_accepts 96 = .ok (.aload_n 0, 1) ∧ 96 + 1 = 97 := by decide +kernel
theorem e_X1_accepts_97 : decode cX1_accepts 97 = .ok (.iload_n 1, 1) ∧ 97 + 1 = 98 := by decide +kernel
theorem e_X1_accepts_98 : decode cX1_accepts 98 = .ok (.bipush 48, 2) ∧ 98 + 2 = 100 := by decide +kernel
theorem e_X1_accepts_100 : decode cX1_accepts 100 = .ok (.isub, 1) ∧ 100 + 1 = 101 := by decide +kernel
theorem e_X1_accepts_101 : decode cX1_accepts 101 = .ok (.aload_n 0, 1) ∧ 101 + 1 = 102 := by decide +kernel
theorem e_X1_accepts_102 : decode cX1_accepts 102 = .ok (.getfield 25, 3) ∧ 102 + 3 = 105 := by decide +kernel
theorem e_X1_accepts_105 : decode cX1_accepts 105 = .ok (.invokevirtual 41, 3) ∧ 105 + 3 = 108 := by decide +kernel
theorem e_X1_accepts_108 : decode cX1_accepts 108 = .ok (.ifCond .eq 15, 3) ∧ 108 + 3 = 111 ∧ ((108 : Nat) : Int) + (15) = ((123 : Nat) : Int) := by decide +kernel
theorem e_X1_accepts_111 : decode cX1_accepts 111 = .ok (.aload_n 0, 1) ∧ 111 + 1 = 112 := by decide +kernel
theorem e_X1_accepts_112 : decode cX1_accepts 112 = .ok (.iconst 4, 1) ∧ 112 + 1 = 113 := by decide +kernel
theorem e_X1_accepts_113 : decode cX1_accepts 113 = .ok (.invokevirtual 31, 3) ∧ 113 + 3 = 116 := by decide +kernel
theorem e_X1_accepts_116 : decode cX1_accepts 116 = .ok (.ifCond .eq 7, 3) ∧ 116 + 3 = 119 ∧ ((116 : Nat) : Int) + (7) = ((123 : Nat) : Int) := by decide +kernel
theorem e_X1_accepts_119 : decode cX1_accepts 119 = .ok (.iconst 1, 1) ∧ 119 + 1 = 120 := by decide +kernel
theorem e_X1_accepts_120 : decode cX1_accepts 120 = .ok (.goto 4, 3) ∧ 120 + 3 = 123 ∧ ((120 : Nat) : Int) + (4) = ((124 : Nat) : Int) := by decide +kernel
theorem e_X1_accepts_123 : decode cX1_accepts 123 = .ok (.iconst 0, 1) ∧ 123 + 1 = 124 := by decide +kernel
theorem e_X1_accepts_124 : decode cX1_accepts 124 = .ok (.ireturn, 1) := by decide +kernel
theorem e_X1_accepts_125 : decode cX1_accepts 125 = .ok (.aload_n 0, 1) ∧ 125 + 1 = 126 := by decide +kernel
theorem e_X1_accepts_126 : decode cX1_accepts 126 = .ok (.iload_n 1, 1) ∧ 126 + 1 = 127 := by decide +kernel
theorem e_X1_accepts_127 : decode cX1_accepts 127 = .ok (.bipush 48, 2) ∧ 127 + 2 = 129 := by decide +kernel
theorem e_X1_accepts_129 : decode cX1_accepts 129 = .ok (.isub, 1) ∧ 129 + 1 = 130 := by decide +kernel
theorem e_X1_accepts_130 : decode cX1_accepts 130 = .ok (.aload_n 0, 1) ∧ 130 + 1 = 131 := by decide +kernel
theorem e_X1_accepts_131 : decode cX1_accepts 131 = .ok (.getfield 25, 3) ∧ 131 + 3 = 134 := by decide +kernel
theorem e_X1_accepts_134 : decode cX1_accepts 134 = .ok (.invokevirtual 45, 3) ∧ 134 + 3 = 137 := by decide +kernel
theorem e_X1_accepts_137 : decode cX1_accepts 137 = .ok (.ifCond .eq 14, 3) ∧ 137 + 3 = 140 ∧ ((137 : Nat) : Int) + (14) = ((151 : Nat) : Int) := by decide +kernel
theorem e_X1_accepts_140 : decode cX1_accepts 140 = .ok (.aload_n 0, 1) ∧ 140 + 1 = 141 := by decide +kernel
theorem e_X1_accepts_141 : decode cX1_accepts 141 = .ok (.invokevirtual 48, 3) ∧ 141 + 3 = 144 := by decide +kernel
theorem e_X1_accepts_144 : decode cX1_accepts 144 = .ok (.ifCond .eq 7, 3) ∧ 144 + 3 = 147 ∧ ((144 : Nat) : Int) + (7) = ((151 : Nat) : Int) := by decide +kernel
theorem e_X1_accepts_147 : decode cX1_accepts 147 = .ok (.iconst 1, 1) ∧ 147 + 1 = 148 := by decide +kernel
theorem e_X1_accepts_148 : decode cX1_accepts 148 = .ok (.goto 4, 3) ∧ 148 + 3 = 151 ∧ ((148 : Nat) : Int) + (4) = ((152 : Nat) : Int) := by decide +kernel
theorem e_X1_accepts_151 : decode cX1_accepts 151 = .ok (.iconst 0, 1) ∧ 151 + 1 = 152 := by decide +kernel
theorem e_X1_accepts_152 : decode cX1_accepts 152 = .ok (.ireturn, 1) := by decide +kernel
theorem e_X1_accepts_153 : decode cX1_accepts 153 = .ok (.aload_n 0, 1) ∧ 153 + 1 = 154 := by decide +kernel
theorem e_X1_accepts_154 : decode cX1_accepts 154 = .ok (.aload_n 0, 1) ∧ 154 + 1 = 155 := by decide +kernel
theorem e_X1_accepts_155 : decode cX1_accepts 155 = .ok (.getfield 12, 3) ∧ 155 + 3 = 158 := by decide +kernel
theorem e_X1_accepts_158 : decode cX1_accepts 158 = .ok (.getfield 52, 3) ∧ 158 + 3 = 161 := by decide +kernel
theorem e_X1_accepts_161 : decode cX1_accepts 161 = .ok (.iload_n 1, 1) ∧ 161 + 1 = 162 := by decide +kernel
theorem e_X1_accepts_162 : decode cX1_accepts 162 = .ok (.bipush 48, 2) ∧ 162 + 2 = 164 := by decide +kernel
theorem e_X1_accepts_164 : decode cX1_accepts 164 = .ok (.isub, 1) ∧ 164 + 1 = 165 := by decide +kernel
theorem e_X1_accepts_165 : decode cX1_accepts 165 = .ok (.invokevirtual 56, 3) ∧ 165 + 3 = 168 := by decide +kernel
theorem e_X1_accepts_168 : decode cX1_accepts 168 = .ok (.ifCond .eq 16, 3) ∧ 168 + 3 = 171 ∧ ((168 : Nat) : Int) + (16) = ((184 : Nat) : Int) := by decide +kernel
theorem e_X1_accepts_171 : decode cX1_accepts 171 = .ok (.aload_n 0, 1) ∧ 171 + 1 = 172 := by decide +kernel
theorem e_X1_accepts_172 : decode cX1_accepts 172 = .ok (.bipush 6, 2) ∧ 172 + 2 = 174 := by decide +kernel
theorem e_X1_accepts_174 : decode cX1_accepts 174 = .ok (.invokevirtual 31, 3) ∧ 174 + 3 = 177 := by decide +kernel
theorem e_X1_accepts_177 : decode cX1_accepts 177 = .ok (.ifCond .eq 7, 3) ∧ 177 + 3 = 180 ∧ ((177 : Nat) : Int) + (7) = ((184 : Nat) : Int) := by decide +kernel
theorem e_X1_accepts_180 : decode cX1_accepts 180 = .ok (.iconst 1, 1) ∧ 180 + 1 = 181 := by decide +kernel
theorem e_X1_accepts_181 : decode cX1_accepts 181 = .ok (.goto 4, 3) ∧ 181 + 3 = 184 ∧ ((181 : Nat) : Int) + (4) = ((185 : Nat) : Int) := by decide +kernel
theorem e_X1_accepts_184 : decode cX1_accepts 184 = .ok (.iconst 0, 1) ∧ 184 + 1 = 185 := by decide +kernel
theorem e_X1_accepts_185 : decode cX1_accepts 185 = .ok (.ireturn, 1) := by decide +kernel
theorem e_X1_accepts_186 : decode cX1_accepts 186 = .ok (.aload_n 0, 1) ∧ 186 + 1 = 187 := by decide +kernel
theorem e_X1_accepts_187 : decode cX1_accepts 187 = .ok (.aload_n 0, 1) ∧ 187 + 1 = 188 := by decide +kernel
theorem e_X1_accepts_188 : decode cX1_accepts 188 = .ok (.getfield 12, 3) ∧ 188 + 3 = 191 := by decide +kernel
theorem e_X1_accepts_191 : decode cX1_accepts 191 = .ok (.getfield 60, 3) ∧ 191 + 3 = 194 := by decide +kernel
theorem e_X1_accepts_194 : decode cX1_accepts 194 = .ok (.iload_n 1, 1) ∧ 194 + 1 = 195 := by decide +kernel
theorem e_X1_accepts_195 : decode cX1_accepts 195 = .ok (.bipush 48, 2) ∧ 195 + 2 = 197 := by decide +kernel
theorem e_X1_accepts_197 : decode cX1_accepts 197 = .ok (.isub, 1) ∧ 197 + 1 = 198 := by decide +kernel
theorem e_X1_accepts_198 : decode cX1_accepts 198 = .ok (.invokevirtual 56, 3) ∧ 198 + 3 = 201 := by decide +kernel
theorem e_X1_accepts_201 : decode cX1_accepts 201 = .ok (.ifCond .eq 16, 3) ∧ 201 + 3 = 204 ∧ ((201 : Nat) : Int) + (16) = ((217 : Nat) : Int) := by decide +kernel
theorem e_X1_accepts_204 : decode cX1_accepts 204 = .ok (.aload_n 0, 1) ∧ 204 + 1 = 205 := by decide +kernel
theorem e_X1_accepts_205 : decode cX1_accepts 205 = .ok (.bipush 7, 2) ∧ 205 + 2 = 207 := by decide +kernel
theorem e_X1_accepts_207 : decode cX1_accepts 207 = .ok (.invokevirtual 31, 3) ∧ 207 + 3 = 210 := by decide +kernel
theorem e_X1_accepts_210 : decode cX1_accepts 210 = .ok (.ifCond .eq 7, 3) ∧ 210 + 3 = 213 ∧ ((210 : Nat) : Int) + (7) = ((217 : Nat) : Int) := by decide +kernel
theorem e_X1_accepts_213 : decode cX1_accepts 213 = .ok (.iconst 1, 1) ∧ 213 + 1 = 214 := by decide +kernel
theorem e_X1_accepts_214 : decode cX1_accepts 214 = .ok (.goto 4, 3) ∧ 214 + 3 = 217 ∧ ((214 : Nat) : Int) + (4) = ((218 : Nat) : Int) := by decide +kernel
theorem e_X1_accepts_217 : decode cX1_accepts 217 = .ok (.iconst 0, 1) ∧ 217 + 1 = 218 := by decide +kernel
theorem e_X1_accepts_218 : decode cX1_accepts 218 = .ok (.ireturn, 1) := by decide +kernel
theorem e_X1_accepts_219 : decode cX1_accepts 219 = .ok (.aload_n 0, 1) ∧ 219 + 1 = 220 := by decide +kernel
theorem e_X1_accepts_220 : decode cX1_accepts 220 = .ok (.aload_n 0, 1) ∧ 220 + 1 = 221 := by decide +kernel
theorem e_X1_accepts_221 : decode cX1_accepts 221 = .ok (.getfield 12, 3) ∧ 221 + 3 = 224 := by decide +kernel
theorem e_X1_accepts_224 : decode cX1_accepts 224 = .ok (.getfield 63, 3) ∧ 224 + 3 = 227 := by decide +kernel
theorem e_X1_accepts_227 : decode cX1_accepts 227 = .ok (.iload_n 1, 1) ∧ 227 + 1 = 228 := by decide +kernel
theorem e_X1_accepts_228 : decode cX1_accepts 228 = .ok (.bipush 48, 2) ∧ 228 + 2 = 230 := by decide +kernel
theorem e_X1_accepts_230 : decode cX1_accepts 230 = .ok (.isub, 1) ∧ 230 + 1 = 231 := by decide +kernel
theorem e_X1_accepts_231 : decode cX1_accepts 231 = .ok (.invokevirtual 56, 3) ∧ 231 + 3 = 234 := by decide +kernel
theorem e_X1_accepts_234 : decode cX1_accepts 234 = .ok (.ifCond .eq 15, 3) ∧ 234 + 3 = 237 ∧ ((234 : Nat) : Int) + (15) = ((249 : Nat) : Int) := by decide +kernel
theorem e_X1_accepts_237 : decode cX1_accepts 237 = .ok (.aload_n 0, 1) ∧ 237 + 1 = 238 := by decide +kernel
theorem e_X1_accepts_238 : decode cX1_accepts 238 = .ok (.iconst 2, 1) ∧ 238 + 1 = 239 := by decide +kernel
theorem e_X1_accepts_239 : decode cX1_accepts 239 = .ok (.invokevirtual 31, 3) ∧ 239 + 3 = 242 := by decide +kernel
theorem e_X1_accepts_242 : decode cX1_accepts 242 = .ok (.ifCond .eq 7, 3) ∧ 242 + 3 = 245 ∧ ((242 : Nat) : Int) + (7) = ((249 : Nat) : Int) := by decide +kernel
theorem e_X1_accepts_245 : decode cX1_accepts 245 = .ok (.iconst 1, 1) ∧ 245 + 1 = 246 := by decide +kernel
theorem e_X1_accepts_246 : decode cX1_accepts 246 = .ok (.goto 4, 3) ∧ 246 + 3 = 249 ∧ ((246 : Nat) : Int) + (4) = ((250 : Nat) : Int) := by decide +kernel
theorem e_X1_accepts_249 : decode cX1_accepts 249 = .ok (.iconst 0, 1) ∧ 249 + 1 = 250 := by decide +kernel
theorem e_X1_accepts_250 : decode cX1_accepts 250 = .ok (.ireturn, 1) := by decide +kernel
theorem e_X1_accepts_251 : decode cX1_accepts 251 = .ok (.aload_n 0, 1) ∧ 251 + 1 = 252 := by decide +kernel
theorem e_X1_accepts_252 : decode cX1_accepts 252 = .ok (.iload_n 1, 1) ∧ 252 + 1 = 253 := by decide +kernel
theorem e_X1_accepts_253 : decode cX1_accepts 253 = .ok (.bipush 48, 2) ∧ 253 + 2 = 255 := by decide +kernel
theorem e_X1_accepts_255 : decode cX1_accepts 255 = .ok (.isub, 1) ∧ 255 + 1 = 256 := by decide +kernel
theorem e_X1_accepts_256 : decode cX1_accepts 256 = .ok (.iconst 0, 1) ∧ 256 + 1 = 257 := by decide +kernel
theorem e_X1_accepts_257 : decode cX1_accepts 257 = .ok (.invokevirtual 41, 3) ∧ 257 + 3 = 260 := by decide +kernel
theorem e_X1_accepts_260 : decode cX1_accepts 260 = .ok (.ifCond .eq 16, 3) ∧ 260 + 3 = 263 ∧ ((260 : Nat) : Int) + (16) = ((276 : Nat) : Int) := by decide +kernel
theorem e_X1_accepts_263 : decode cX1_accepts 263 = .ok (.aload_n 0, 1) ∧ 263 + 1 = 264 := by decide +kernel
theorem e_X1_accepts_264 : decode cX1_accepts 264 = .ok (.bipush 9, 2) ∧ 264 + 2 = 266 := by decide +kernel
theorem e_X1_accepts_266 : decode cX1_accepts 266 = .ok (.invokevirtual 31, 3) ∧ 266 + 3 = 269 := by decide +kernel
theorem e_X1_accepts_269 : decode cX1_accepts 269 = .ok (.ifCond .eq 7, 3) ∧ 269 + 3 = 272 ∧ ((269 : Nat) : Int) + (7) = ((276 : Nat) : Int) := by decide +kernel
theorem e_X1_accepts_272 : decode cX1_accepts 272 = .ok (.iconst 1, 1) ∧ 272 + 1 = 273 := by decide +kernel
theorem e_X1_accepts_273 : decode cX1_accepts 273 = .ok (.goto 4, 3) ∧ 273 + 3 = 276 ∧ ((273 : Nat) : Int) + (4) = ((277 : Nat) : Int) := by decide +kernel
theorem e_X1_accepts_276 : decode cX1_accepts 276 = .ok (.iconst 0, 1) ∧ 276 + 1 = 277 := by decide +kernel
theorem e_X1_accepts_277 : decode cX1_accepts 277 = .ok (.ireturn, 1) := by decide +kernel
theorem e_X1_accepts_278 : decode cX1_accepts 278 = .ok (.aload_n 0, 1) ∧ 278 + 1 = 279 := by decide +kernel
theorem e_X1_accepts_279 : decode cX1_accepts 279 = .ok (.iload_n 1, 1) ∧ 279 + 1 = 280 := by decide +kernel
theorem e_X1_accepts_280 : decode cX1_accepts 280 = .ok (.bipush 48, 2) ∧ 280 + 2 = 282 := by decide +kernel
theorem e_X1_accepts_282 : decode cX1_accepts 282 = .ok (.isub, 1) ∧ 282 + 1 = 283 := by decide +kernel
theorem e_X1_accepts_283 : decode cX1_accepts 283 = .ok (.iconst 0, 1) ∧ 283 + 1 = 284 := by decide +kernel
theorem e_X1_accepts_284 : decode cX1_accepts 284 = .ok (.invokevirtual 45, 3) ∧ 284 + 3 = 287 := by decide +kernel
theorem e_X1_accepts_287 : decode cX1_accepts 287 = .ok (.ifCond .eq 16, 3) ∧ 287 + 3 = 290 ∧ ((287 : Nat) : Int) + (16) = ((303 : Nat) : Int) := by decide +kernel
theorem e_X1_accepts_290 : decode cX1_accepts 290 = .ok (.aload_n 0, 1) ∧ 290 + 1 = 291 := by decide +kernel
theorem e_X1_accepts_291 : decode cX1_accepts 291 = .ok (.bipush 10, 2) ∧ 291 + 2 = 293 := by decide +kernel
theorem e_X1_accepts_293 : decode cX1_accepts 293 = .ok (.invokevirtual 31, 3) ∧ 293 + 3 = 296 := by decide +kernel
theorem e_X1_accepts_296 : decode cX1_accepts 296 = .ok (.ifCond .eq 7, 3) ∧ 296 + 3 = 299 ∧ ((296 : Nat) : Int) + (7) = ((303 : Nat) : Int) := by decide +kernel
theorem e_X1_accepts_299 : decode cX1_accepts 299 = .ok (.iconst 1, 1) ∧ 299 + 1 = 300 := by decide +kernel
theorem e_X1_accepts_300 : decode cX1_accepts 300 = .ok (.goto 4, 3) ∧ 300 + 3 = 303 ∧ ((300 : Nat) : Int) + (4) = ((304 : Nat) : Int) := by decide +kernel
theorem e_X1_accepts_303 : decode cX1_accepts 303 = .ok (.iconst 0, 1) ∧ 303 + 1 = 304 := by decide +kernel
theorem e_X1_accepts_304 : decode cX1_accepts 304 = .ok (.ireturn, 1) := by decide +kernel
theorem e_X1_accepts_305 : decode cX1_accepts 305 = .ok (.aload_n 0, 1) ∧ 305 + 1 = 306 := by decide +kernel
theorem e_X1_accepts_306 : decode cX1_accepts 306 = .ok (.iload_n 1, 1) ∧ 306 + 1 = 307 := by decide +kernel
theorem e_X1_accepts_307 : decode cX1_accepts 307 = .ok (.bipush 48, 2) ∧ 307 + 2 = 309 := by decide +kernel
theorem e_X1_accepts_309 : decode cX1_accepts 309 = .ok (.isub, 1) ∧ 309 + 1 = 310 := by decide +kernel
theorem e_X1_accepts_310 : decode cX1_accepts 310 = .ok (.invokevirtual 66, 3) ∧ 310 + 3 = 313 := by decide +kernel
theorem e_X1_accepts_313 : decode cX1_accepts 313 = .ok (.ireturn, 1) := by decide +kernel
theorem e_X1_accepts_314 : decode cX1_accepts 314 = .ok (.iconst 0, 1) ∧ 314 + 1 = 315 := by decide +kernel
theorem e_X1_accepts_315 : decode cX1_accepts 315 = .ok (.ireturn, 1) := by decide +kernel
theorem e_X1_goOn_0 : decode cX1_goOn 0 = .ok (.aload_n 0, 1) ∧ 0 + 1 = 1 := by decide +kernel
theorem e_X1_goOn_1 : decode cX1_goOn 1 = .ok (.iload_n 1, 1) ∧ 1 + 1 = 2 := by decide +kernel
theorem e_X1_goOn_2 : decode cX1_goOn 2 = .ok (.putfield 21, 3) ∧ 2 + 3 = 5 := by decide +kernel
theorem e_X1_goOn_5 : decode cX1_goOn 5 = .ok (.iconst 1, 1) ∧ 5 + 1 = 6 := by decide +kernel
theorem e_X1_goOn_6 : decode cX1_goOn 6 = .ok (.ireturn, 1) := by decide +kernel
theorem e_X1_acceptsHold_0 : decode cX1_acceptsHold 0 = .ok (.iload_n 1, 1) ∧ 0 + 1 = 1 := by decide +kernel
theorem e_X1_acceptsHold_1 : decode cX1_acceptsHold 1 = .ok (.bipush 49, 2) ∧ 1 + 2 = 3 := by decide +kernel
theorem e_X1_acceptsHold_3 : decode cX1_acceptsHold 3 = .ok (.if_icmp .lt 9, 3) ∧ 3 + 3 = 6 ∧ ((3 : Nat) : Int) + (9) = ((12 : Nat) : Int) := by decide +kernel
theorem e_X1_acceptsHold_6 : decode cX1_acceptsHold 6 = .ok (.iload_n 1, 1) ∧ 6 + 1 = 7 := by decide +kernel
theorem e_X1_acceptsHold_7 : decode cX1_acceptsHold 7 = .ok (.bipush 57, 2) ∧ 7 + 2 = 9 := by decide +kernel
theorem e_X1_acceptsHold_9 : decode cX1_acceptsHold 9 = .ok (.if_icmp .le 5, 3) ∧ 9 + 3 = 12 ∧ ((9 : Nat) : Int) + (5) = ((14 : Nat) : Int) := by decide +kernel
theorem e_X1_acceptsHold_12 : decode cX1_acceptsHold 12 = .ok (.iconst 0, 1) ∧ 12 + 1 = 13 := by decide +kernel
theorem e_X1_acceptsHold_13 : decode cX1_acceptsHold 13 = .ok (.ireturn, 1) := by decide +kernel
theorem e_X1_acceptsHold_14 : decode cX1_acceptsHold 14 = .ok (.aload_n 0, 1) ∧ 14 + 1 = 15 := by decide +kernel
theorem e_X1_acceptsHold_15 : decode cX1_acceptsHold 15 = .ok (.getfield 12, 3) ∧ 15 + 3 = 18 := by decide +kernel
theorem e_X1_acceptsHold_18 : decode cX1_acceptsHold 18 = .ok (.iload_n 1, 1) ∧ 18 + 1 = 19 := by decide +kernel
theorem e_X1_acceptsHold_19 : decode cX1_acceptsHold 19 = .ok (.bipush 48, 2) ∧ 19 + 2 = 21 := by decide +kernel
theorem e_X1_acceptsHold_21 : decode cX1_acceptsHold 21 = .ok (.isub, 1) ∧ 21 + 1 = 22 := by decide +kernel
theorem e_X1_acceptsHold_22 : decode cX1_acceptsHold 22 = .ok (.putfield 69, 3) ∧ 22 + 3 = 25 := by decide +kernel
theorem e_X1_acceptsHold_25 : decode cX1_acceptsHold 25 = .ok (.aload_n 0, 1) ∧ 25 + 1 = 26 := by decide +kernel
theorem e_X1_acceptsHold_26 : decode cX1_acceptsHold 26 = .ok (.iconst 2, 1) ∧ 26 + 1 = 27 := by decide +kernel
theorem e_X1_acceptsHold_27 : decode cX1_acceptsHold 27 = .ok (.invokevirtual 31, 3) ∧ 27 + 3 = 30 := by decide +kernel
theorem e_X1_acceptsHold_30 : decode cX1_acceptsHold 30 = .ok (.ireturn, 1) := by decide +kernel
theorem e_X1_acceptsPart_0 : decode cX1_acceptsPart 0 = .ok (.iload_n 1, 1) ∧ 0 + 1 = 1 := by decide +kernel
theorem e_X1_acceptsPart_1 : decode cX1_acceptsPart 1 = .ok (.bipush 67, 2) ∧ 1 + 2 = 3 := by decide +kernel
theorem e_X1_acceptsPart_3 : decode cX1_acceptsPart 3 = .ok (.if_icmp .ne 21, 3) ∧ 3 + 3 = 6 ∧ ((3 : Nat) : Int) + (21) = ((24 : Nat) : Int) := by decide +kernel
theorem e_X1_acceptsPart_6 : decode cX1_acceptsPart 6 = .ok (.aload_n 0, 1) ∧ 6 + 1 = 7 := by decide +kernel
theorem e_X1_acceptsPart_7 : decode cX1_acceptsPart 7 = .ok (.getfield 25, 3) ∧ 7 + 3 = 10 := by decide +kernel
theorem e_X1_acceptsPart_10 : decode cX1_acceptsPart 10 = .ok (.invokestatic 72, 3) ∧ 10 + 3 = 13 := by decide +kernel
theorem e_X1_acceptsPart_13 : decode cX1_acceptsPart 13 = .ok (.bipush 8, 2) ∧ 13 + 2 = 15 := by decide +kernel
theorem e_X1_acceptsPart_15 : decode cX1_acceptsPart 15 = .ok (.if_icmp .ge 9, 3) ∧ 15 + 3 = 18 ∧ ((15 : Nat) : Int) + (9) = ((24 : Nat) : Int) := by decide +kernel
theorem e_X1_acceptsPart_18 : decode cX1_acceptsPart 18 = .ok (.aload_n 0, 1) ∧ 18 + 1 = 19 := by decide +kernel
theorem e_X1_acceptsPart_19 : decode cX1_acceptsPart 19 = .ok (.iconst 3, 1) ∧ 19 + 1 = 20 := by decide +kernel
theorem e_X1_acceptsPart_20 : decode cX1_acceptsPart 20 = .ok (.invokevirtual 31, 3) ∧ 20 + 3 = 23 := by decide +kernel
theorem e_X1_acceptsPart_23 : decode cX1_acceptsPart 23 = .ok (.ireturn, 1) := by decide +kernel
theorem e_X1_acceptsPart_24 : decode cX1_acceptsPart 24 = .ok (.iload_n 1, 1) ∧ 24 + 1 = 25 := by decide +kernel
theorem e_X1_acceptsPart_25 : decode cX1_acceptsPart 25 = .ok (.bipush 75, 2) ∧ 25 + 2 = 27 := by decide +kernel
theorem e_X1_acceptsPart_27 : decode cX1_acceptsPart 27 = .ok (.if_icmp .ne 27, 3) ∧ 27 + 3 = 30 ∧ ((27 : Nat) : Int) + (27) = ((54 : Nat) : Int) := by decide +kernel
theorem e_X1_acceptsPart_30 : decode cX1_acceptsPart 30 = .ok (.aload_n 0, 1) ∧ 30 + 1 = 31 := by decide +kernel
theorem e_X1_acceptsPart_31 : decode cX1_acceptsPart 31 = .ok (.getfield 12, 3) ∧ 31 + 3 = 34 := by decide +kernel
theorem e_X1_acceptsPart_34 : decode cX1_acceptsPart 34 = .ok (.getfield 78, 3) ∧ 34 + 3 = 37 := by decide +kernel
theorem e_X1_acceptsPart_37 : decode cX1_acceptsPart 37 = .ok (.iconst 4, 1) ∧ 37 + 1 = 38 := by decide +kernel
theorem e_X1_acceptsPart_38 : decode cX1_acceptsPart 38 = .ok (.if_icmp .ge 16, 3) ∧ 38 + 3 = 41 ∧ ((38 : Nat) : Int) + (16) = ((54 : Nat) : Int) := by decide +kernel
theorem e_X1_acceptsPart_41 : decode cX1_acceptsPart 41 = .ok (.aload_n 0, 1) ∧ 41 + 1 = 42 := by decide +kernel
theorem e_X1_acceptsPart_42 : decode cX1_acceptsPart 42 = .ok (.bipush 8, 2) ∧ 42 + 2 = 44 := by decide +kernel
theorem e_X1_acceptsPart_44 : decode cX1_acceptsPart 44 = .ok (.invokevirtual 31, 3) ∧ 44 + 3 = 47 := by decide +kernel
theorem e_X1_acceptsPart_47 : decode cX1_acceptsPart 47 = .ok (.ifCond .eq 7, 3) ∧ 47 + 3 = 50 ∧ ((47 : Nat) : Int) + (7) = ((54 : Nat) : Int) := by decide +kernel
theorem e_X1_acceptsPart_50 : decode cX1_acceptsPart 50 = .ok (.iconst 1, 1) ∧ 50 + 1 = 51 := by decide +kernel
theorem e_X1_acceptsPart_51 : decode cX1_acceptsPart 51 = .ok (.goto 4, 3) ∧ 51 + 3 = 54 ∧ ((51 : Nat) : Int) + (4) = ((55 : Nat) : Int) := by decide +kernel
theorem e_X1_acceptsPart_54 : decode cX1_acceptsPart 54 = .ok (.iconst 0, 1) ∧ 54 + 1 = 55 := by decide +kernel
theorem e_X1_acceptsPart_55 : decode cX1_acceptsPart 55 = .ok (.ireturn, 1) := by decide +kernel
theorem e_X1_acceptsTens_0 : decode cX1_acceptsTens 0 = .ok (.iload_n 1, 1) ∧ 0 + 1 = 1 := by decide +kernel
theorem e_X1_acceptsTens_1 : decode cX1_acceptsTens 1 = .ok (.ifCond .ne 9, 3) ∧ 1 + 3 = 4 ∧ ((1 : Nat) : Int) + (9) = ((10 : Nat) : Int) := by decide +kernel
theorem e_X1_acceptsTens_4 : decode cX1_acceptsTens 4 = .ok (.sipush 1023, 3) ∧ 4 + 3 = 7 := by decide +kernel
theorem e_X1_acceptsTens_7 : decode cX1_acceptsTens 7 = .ok (.goto 15, 3) ∧ 7 + 3 = 10 ∧ ((7 : Nat) : Int) + (15) = ((22 : Nat) : Int) := by decide +kernel
theorem e_X1_acceptsTens_10 : decode cX1_acceptsTens 10 = .ok (.iload_n 1, 1) ∧ 10 + 1 = 11 := by decide +kernel
theorem e_X1_acceptsTens_11 : decode cX1_acceptsTens 11 = .ok (.iconst 1, 1) ∧ 11 + 1 = 12 := by decide +kernel
theorem e_X1_acceptsTens_12 : decode cX1_acceptsTens 12 = .ok (.if_icmp .ne 9, 3) ∧ 12 + 3 = 15 ∧ ((12 : Nat) : Int) + (9) = ((21 : Nat) : Int) := by decide +kernel
theorem e_X1_acceptsTens_15 : decode cX1_acceptsTens 15 = .ok (.sipush 3072, 3) ∧ 15 + 3 = 18 := by decide +kernel
theorem e_X1_acceptsTens_18 : decode cX1_acceptsTens 18 = .ok (.goto 4, 3) ∧ 18 + 3 = 21 ∧ ((18 : Nat) : Int) + (4) = ((22 : Nat) : Int) := by decide +kernel
theorem e_X1_acceptsTens_21 : decode cX1_acceptsTens 21 = .ok (.iconst 0, 1) ∧ 21 + 1 = 22 := by decide +kernel
theorem e_X1_acceptsTens_22 : decode cX1_acceptsTens 22 = .ok (.istore_n 3, 1) ∧ 22 + 1 = 23 := by decide +kernel
theorem e_X1_acceptsTens_23 : decode cX1_acceptsTens 23 = .ok (.aload_n 0, 1) ∧ 23 + 1 = 24 := by decide +kernel
theorem e_X1_acceptsTens_24 : decode cX1_acceptsTens 24 = .ok (.bipush 10, 2) ∧ 24 + 2 = 26 := by decide +kernel
theorem e_X1_acceptsTens_26 : decode cX1_acceptsTens 26 = .ok (.iload_n 1, 1) ∧ 26 + 1 = 27 := by decide +kernel
theorem e_X1_acceptsTens_27 : decode cX1_acceptsTens 27 = .ok (.imul, 1) ∧ 27 + 1 = 28 := by decide +kernel
theorem e_X1_acceptsTens_28 : decode cX1_acceptsTens 28 = .ok (.putfield 28, 3) ∧ 28 + 3 = 31 := by decide +kernel
theorem e_X1_acceptsTens_31 : decode cX1_acceptsTens 31 = .ok (.iload_n 3, 1) ∧ 31 + 1 = 32 := by decide +kernel
theorem e_X1_acceptsTens_32 : decode cX1_acceptsTens 32 = .ok (.iload_n 2, 1) ∧ 32 + 1 = 33 := by decide +kernel
theorem e_X1_acceptsTens_33 : decode cX1_acceptsTens 33 = .ok (.iconst (-1), 1) ∧ 33 + 1 = 34 := by decide +kernel
theorem e_X1_acceptsTens_34 : decode cX1_acceptsTens 34 = .ok (.ixor, 1) ∧ 34 + 1 = 35 := by decide +kernel
theorem e_X1_acceptsTens_35 : decode cX1_acceptsTens 35 = .ok (.iand, 1) ∧ 35 + 1 = 36 := by decide +kernel
theorem e_X1_acceptsTens_36 : decode cX1_acceptsTens 36 = .ok (.ifCond .eq 7, 3) ∧ 36 + 3 = 39 ∧ ((36 : Nat) : Int) + (7) = ((43 : Nat) : Int) := by decide +kernel
theorem e_X1_acceptsTens_39 : decode cX1_acceptsTens 39 = .ok (.iconst 1, 1) ∧ 39 + 1 = 40 := by decide +kernel
theorem e_X1_acceptsTens_40 : decode cX1_acceptsTens 40 = .ok (.goto 4, 3) ∧ 40 + 3 = 43 ∧ ((40 : Nat) : Int) + (4) = ((44 : Nat) : Int) := by decide +kernel
theorem e_X1_acceptsTens_43 : decode cX1_acceptsTens 43 = .ok (.iconst 0, 1) ∧ 43 + 1 = 44 := by decide +kernel
theorem e_X1_acceptsTens_44 : decode cX1_acceptsTens 44 = .ok (.ireturn, 1) := by decide +kernel
theorem e_X1_acceptsOnes_0 : decode cX1_acceptsOnes 0 = .ok (.aload_n 0, 1) ∧ 0 + 1 = 1 := by decide +kernel
theorem e_X1_acceptsOnes_1 : decode cX1_acceptsOnes 1 = .ok (.dup, 1) ∧ 1 + 1 = 2 := by decide +kernel
theorem e_X1_acceptsOnes_2 : decode cX1_acceptsOnes 2 = .ok (.getfield 28, 3) ∧ 2 + 3 = 5 := by decide +kernel
theorem e_X1_acceptsOnes_5 : decode cX1_acceptsOnes 5 = .ok (.iload_n 1, 1) ∧ 5 + 1 = 6 := by decide +kernel
theorem e_X1_acceptsOnes_6 : decode cX1_acceptsOnes 6 = .ok (.iadd, 1) ∧ 6 + 1 = 7 := by decide +kernel
theorem e_X1_acceptsOnes_7 : decode cX1_acceptsOnes 7 = .ok (.putfield 28, 3) ∧ 7 + 3 = 10 := by decide +kernel
theorem e_X1_acceptsOnes_10 : decode cX1_acceptsOnes 10 = .ok (.iload_n 1, 1) ∧ 10 + 1 = 11 := by decide +kernel
theorem e_X1_acceptsOnes_11 : decode cX1_acceptsOnes 11 = .ok (.ifCond .lt 34, 3) ∧ 11 + 3 = 14 ∧ ((11 : Nat) : Int) + (34) = ((45 : Nat) : Int) := by decide +kernel
theorem e_X1_acceptsOnes_14 : decode cX1_acceptsOnes 14 = .ok (.iload_n 1, 1) ∧ 14 + 1 = 15 := by decide +kernel
theorem e_X1_acceptsOnes_15 : decode cX1_acceptsOnes 15 = .ok (.bipush 9, 2) ∧ 15 + 2 = 17 := by decide +kernel
theorem e_X1_acceptsOnes_17 : decode cX1_acceptsOnes 17 = .ok (.if_icmp .gt 28, 3) ∧ 17 + 3 = 20 ∧ ((17 : Nat) : Int) + (28) = ((45 : Nat) : Int) := by decide +kernel
theorem e_X1_acceptsOnes_20 : decode cX1_acceptsOnes 20 = .ok (.aload_n 0, 1) ∧ 20 + 1 = 21 := by decide +kernel
theorem e_X1_acceptsOnes_21 : decode cX1_acceptsOnes 21 = .ok (.getfield 28, 3) ∧ 21 + 3 = 24 := by decide +kernel
theorem e_X1_acceptsOnes_24 : decode cX1_acceptsOnes 24 = .ok (.invokestatic 81, 3) ∧ 24 + 3 = 27 := by decide +kernel
theorem e_X1_acceptsOnes_27 : decode cX1_acceptsOnes 27 = .ok (.ifCond .eq 18, 3) ∧ 27 + 3 = 30 ∧ ((27 : Nat) : Int) + (18) = ((45 : Nat) : Int) := by decide +kernel
theorem e_X1_acceptsOnes_30 : decode cX1_acceptsOnes 30 = .ok (.iload_n 2, 1) ∧ 30 + 1 = 31 := by decide +kernel
theorem e_X1_acceptsOnes_31 : decode cX1_acceptsOnes 31 = .ok (.aload_n 0, 1) ∧ 31 + 1 = 32 := by decide +kernel
theorem e_X1_acceptsOnes_32 : decode cX1_acceptsOnes 32 = .ok (.getfield 28, 3) ∧ 32 + 3 = 35 := by decide +kernel
theorem e_X1_acceptsOnes_35 : decode cX1_acceptsOnes 35 = .ok (.invokestatic 84, 3) ∧ 35 + 3 = 38 := by decide +kernel
theorem e_X1_acceptsOnes_38 : decode cX1_acceptsOnes 38 = .ok (.ifCond .ne 7, 3) ∧ 38 + 3 = 41 ∧ ((38 : Nat) : Int) + (7) = ((45 : Nat) : Int) := by decide +kernel
theorem e_X1_acceptsOnes_41 : decode cX1_acceptsOnes 41 = .ok (.iconst 1, 1) ∧ 41 + 1 = 42 := by decide +kernel
theorem e_X1_acceptsOnes_42 : decode cX1_acceptsOnes 42 = .ok (.goto 4, 3) ∧ 42 + 3 = 45 ∧ ((42 : Nat) : Int) + (4) = ((46 : Nat) : Int) := by decide +kernel
theorem e_X1_acceptsOnes_45 : decode cX1_acceptsOnes 45 = .ok (.iconst 0, 1) ∧ 45 + 1 = 46 := by decide +kernel
theorem e_X1_acceptsOnes_46 : decode cX1_acceptsOnes 46 = .ok (.ireturn, 1) := by decide +kernel
theorem e_X1_tell_0 : decode cX1_tell 0 = .ok (.aload_n 0, 1) ∧ 0 + 1 = 1 := by decide +kernel
theorem e_X1_tell_1 : decode cX1_tell 1 = .ok (.dup, 1) ∧ 1 + 1 = 2 := by decide +kernel
theorem e_X1_tell_2 : decode cX1_tell 2 = .ok (.getfield 25, 3) ∧ 2 + 3 = 5 := by decide +kernel
theorem e_X1_tell_5 : decode cX1_tell 5 = .ok (.iconst 1, 1) ∧ 5 + 1 = 6 := by decide +kernel
theorem e_X1_tell_6 : decode cX1_tell 6 = .ok (.aload_n 0, 1) ∧ 6 + 1 = 7 := by decide +kernel
theorem e_X1_tell_7 : decode cX1_tell 7 = .ok (.getfield 28, 3) ∧ 7 + 3 = 10 := by decide +kernel
theorem e_X1_tell_10 : decode cX1_tell 10 = .ok (.ishl, 1) ∧ 10 + 1 = 11 := by decide +kernel
theorem e_X1_tell_11 : decode cX1_tell 11 = .ok (.ior, 1) ∧ 11 + 1 = 12 := by decide +kernel
theorem e_X1_tell_12 : decode cX1_tell 12 = .ok (.putfield 25, 3) ∧ 12 + 3 = 15 := by decide +kernel
theorem e_X1_tell_15 : decode cX1_tell 15 = .ok (.aload_n 0, 1) ∧ 15 + 1 = 16 := by decide +kernel
theorem e_X1_tell_16 : decode cX1_tell 16 = .ok (.iconst 5, 1) ∧ 16 + 1 = 17 := by decide +kernel
theorem e_X1_tell_17 : decode cX1_tell 17 = .ok (.invokevirtual 31, 3) ∧ 17 + 3 = 20 := by decide +kernel
theorem e_X1_tell_20 : decode cX1_tell 20 = .ok (.ireturn, 1) := by decide +kernel
theorem e_X1_acceptsAmount_0 : decode cX1_acceptsAmount 0 = .ok (.iload_n 2, 1) ∧ 0 + 1 = 1 := by decide +kernel
theorem e_X1_acceptsAmount_1 : decode cX1_acceptsAmount 1 = .ok (.ifCond .lt 9, 3) ∧ 1 + 3 = 4 ∧ ((1 : Nat) : Int) + (9) = ((10 : Nat) : Int) := by decide +kernel
theorem e_X1_acceptsAmount_4 : decode cX1_acceptsAmount 4 = .ok (.iload_n 2, 1) ∧ 4 + 1 = 5 := by decide +kernel
theorem e_X1_acceptsAmount_5 : decode cX1_acceptsAmount 5 = .ok (.bipush 9, 2) ∧ 5 + 2 = 7 := by decide +kernel
theorem e_X1_acceptsAmount_7 : decode cX1_acceptsAmount 7 = .ok (.if_icmp .le 5, 3) ∧ 7 + 3 = 10 ∧ ((7 : Nat) : Int) + (5) = ((12 : Nat) : Int) := by decide +kernel
theorem e_X1_acceptsAmount_10 : decode cX1_acceptsAmount 10 = .ok (.iconst 0, 1) ∧ 10 + 1 = 11 := by decide +kernel
theorem e_X1_acceptsAmount_11 : decode cX1_acceptsAmount 11 = .ok (.ireturn, 1) := by decide +kernel
theorem e_X1_acceptsAmount_12 : decode cX1_acceptsAmount 12 = .ok (.aload_n 1, 1) ∧ 12 + 1 = 13 := by decide +kernel
theorem e_X1_acceptsAmount_13 : decode cX1_acceptsAmount 13 = .ok (.aload_n 0, 1) ∧ 13 + 1 = 14 := by decide +kernel
theorem e_X1_acceptsAmount_14 : decode cX1_acceptsAmount 14 = .ok (.getfield 28, 3) ∧ 14 + 3 = 17 := by decide +kernel
theorem e_X1_acceptsAmount_17 : decode cX1_acceptsAmount 17 = .ok (.iload_n 2, 1) ∧ 17 + 1 = 18 := by decide +kernel
theorem e_X1_acceptsAmount_18 : decode cX1_acceptsAmount 18 = .ok (.invokestatic 87, 3) ∧ 18 + 3 = 21 := by decide +kernel
theorem e_X1_acceptsAmount_21 : decode cX1_acceptsAmount 21 = .ok (.iconst 1, 1) ∧ 21 + 1 = 22 := by decide +kernel
theorem e_X1_acceptsAmount_22 : decode cX1_acceptsAmount 22 = .ok (.ireturn, 1) := by decide +kernel
theorem e_X1_acceptsSect_0 : decode cX1_acceptsSect 0 = .ok (.iload_n 1, 1) ∧ 0 + 1 = 1 := by decide +kernel
theorem e_X1_acceptsSect_1 : decode cX1_acceptsSect 1 = .ok (.ifCond .eq 10, 3) ∧ 1 + 3 = 4 ∧ ((1 : Nat) : Int) + (10) = ((11 : Nat) : Int) := by decide +kernel
theorem e_X1_acceptsSect_4 : decode cX1_acceptsSect 4 = .ok (.iload_n 1, 1) ∧ 4 + 1 = 5 := by decide +kernel
theorem e_X1_acceptsSect_5 : decode cX1_acceptsSect 5 = .ok (.iconst 1, 1) ∧ 5 + 1 = 6 := by decide +kernel
theorem e_X1_acceptsSect_6 : decode cX1_acceptsSect 6 = .ok (.if_icmp .eq 5, 3) ∧ 6 + 3 = 9 ∧ ((6 : Nat) : Int) + (5) = ((11 : Nat) : Int) := by decide +kernel
theorem e_X1_acceptsSect_9 : decode cX1_acceptsSect 9 = .ok (.iconst 0, 1) ∧ 9 + 1 = 10 := by decide +kernel
theorem e_X1_acceptsSect_10 : decode cX1_acceptsSect 10 = .ok (.ireturn, 1) := by decide +kernel
theorem e_X1_acceptsSect_11 : decode cX1_acceptsSect 11 = .ok (.aload_n 0, 1) ∧ 11 + 1 = 12 := by decide +kernel
theorem e_X1_acceptsSect_12 : decode cX1_acceptsSect 12 = .ok (.getfield 12, 3) ∧ 12 + 3 = 15 := by decide +kernel
theorem e_X1_acceptsSect_15 : decode cX1_acceptsSect 15 = .ok (.aload_n 0, 1) ∧ 15 + 1 = 16 := by decide +kernel
theorem e_X1_acceptsSect_16 : decode cX1_acceptsSect 16 = .ok (.getfield 28, 3) ∧ 16 + 3 = 19 := by decide +kernel
theorem e_X1_acceptsSect_19 : decode cX1_acceptsSect 19 = .ok (.iload_n 1, 1) ∧ 19 + 1 = 20 := by decide +kernel
theorem e_X1_acceptsSect_20 : decode cX1_acceptsSect 20 = .ok (.invokevirtual 91, 3) ∧ 20 + 3 = 23 := by decide +kernel
theorem e_X1_acceptsSect_23 : decode cX1_acceptsSect 23 = .ok (.aload_n 0, 1) ∧ 23 + 1 = 24 := by decide +kernel
theorem e_X1_acceptsSect_24 : decode cX1_acceptsSect 24 = .ok (.iconst 2, 1) ∧ 24 + 1 = 25 := by decide +kernel
theorem e_X1_acceptsSect_25 : decode cX1_acceptsSect 25 = .ok (.invokevirtual 31, 3) ∧ 25 + 3 = 28 := by decide +kernel
theorem e_X1_acceptsSect_28 : decode cX1_acceptsSect 28 = .ok (.ireturn, 1) := by decide +kernel
theorem e_X2_init_0 : decode cX2_init 0 = .ok (.aload_n 0, 1) ∧ 0 + 1 = 1 := by decide +kernel
theorem e_X2_init_1 : decode cX2_init 1 = .ok (.invokespecial 1, 3) ∧ 1 + 3 = 4 := by decide +kernel
theorem e_X2_init_4 : decode cX2_init 4 = .ok (.aload_n 0, 1) ∧ 4 + 1 = 5 := by decide +kernel
theorem e_X2_init_5 : decode cX2_init 5 = .ok (.bipush 72, 2) ∧ 5 + 2 = 7 := by decide +kernel
theorem e_X2_init_7 : decode cX2_init 7 = .ok (.newarray .int, 2) ∧ 7 + 2 = 9 := by decide +kernel
theorem e_X2_init_9 : decode cX2_init 9 = .ok (.putfield 9, 3) ∧ 9 + 3 = 12 := by decide +kernel
theorem e_X2_init_12 : decode cX2_init 12 = .ok (.aload_n 0, 1) ∧ 12 + 1 = 13 := by decide +kernel
theorem e_X2_init_13 : decode cX2_init 13 = .ok (.new 13, 3) ∧ 13 + 3 = 16 := by decide +kernel
theorem e_X2_init_16 : decode cX2_init 16 = .ok (.dup, 1) ∧ 16 + 1 = 17 := by decide +kernel
theorem e_X2_init_17 : decode cX2_init 17 = .ok (.invokespecial 15, 3) ∧ 17 + 3 = 20 := by decide +kernel
theorem e_X2_init_20 : decode cX2_init 20 = .ok (.putfield 16, 3) ∧ 20 + 3 = 23 := by decide +kernel
theorem e_X2_init_23 : decode cX2_init 23 = .ok (.aload_n 0, 1) ∧ 23 + 1 = 24 := by decide +kernel
theorem e_X2_init_24 : decode cX2_init 24 = .ok (.new 20, 3) ∧ 24 + 3 = 27 := by decide +kernel
theorem e_X2_init_27 : decode cX2_init 27 = .ok (.dup, 1) ∧ 27 + 1 = 28 := by decide +kernel
theorem e_X2_init_28 : decode cX2_init 28 = .ok (.invokespecial 22, 3) ∧ 28 + 3 = 31 := by decide +kernel
theorem e_X2_init_31 : decode cX2_init 31 = .ok (.putfield 23, 3) ∧ 31 + 3 = 34 := by decide +kernel
theorem e_X2_init_34 : decode cX2_init 34 = .ok (.aload_n 0, 1) ∧ 34 + 1 = 35 := by decide +kernel
theorem e_X2_init_35 : decode cX2_init 35 = .ok (.new 20, 3) ∧ 35 + 3 = 38 := by decide +kernel
theorem e_X2_init_38 : decode cX2_init 38 = .ok (.dup, 1) ∧ 38 + 1 = 39 := by decide +kernel
theorem e_X2_init_39 : decode cX2_init 39 = .ok (.invokespecial 22, 3) ∧ 39 + 3 = 42 := by decide +kernel
theorem e_X2_init_42 : decode cX2_init 42 = .ok (.putfield 27, 3) ∧ 42 + 3 = 45 := by decide +kernel
theorem e_X2_init_45 : decode cX2_init 45 = .ok (.aload_n 0, 1) ∧ 45 + 1 = 46 := by decide +kernel
theorem e_X2_init_46 : decode cX2_init 46 = .ok (.bipush 8, 2) ∧ 46 + 2 = 48 := by decide +kernel
theorem e_X2_init_48 : decode cX2_init 48 = .ok (.newarray .int, 2) ∧ 48 + 2 = 50 := by decide +kernel
theorem e_X2_init_50 : decode cX2_init 50 = .ok (.putfield 30, 3) ∧ 50 + 3 = 53 := by decide +kernel
theorem e_X2_init_53 : decode cX2_init 53 = .ok (.aload_n 0, 1) ∧ 53 + 1 = 54 := by decide +kernel
theorem e_X2_init_54 : decode cX2_init 54 = .ok (.bipush 14, 2) ∧ 54 + 2 = 56 := by decide +kernel
theorem e_X2_init_56 : decode cX2_init 56 = .ok (.anewarray 20, 3) ∧ 56 + 3 = 59 := by decide +kernel
theorem e_X2_init_59 : decode cX2_init 59 = .ok (.putfield 33, 3) ∧ 59 + 3 = 62 := by decide +kernel
theorem e_X2_init_62 : decode cX2_init 62 = .ok (.aload_n 0, 1) ∧ 62 + 1 = 63 := by decide +kernel
theorem e_X2_init_63 : decode cX2_init 63 = .ok (.iconst 2, 1) ∧ 63 + 1 = 64 := by decide +kernel
theorem e_X2_init_64 : decode cX2_init 64 = .ok (.anewarray 20, 3) ∧ 64 + 3 = 67 := by decide +kernel
theorem e_X2_init_67 : decode cX2_init 67 = .ok (.putfield 37, 3) ∧ 67 + 3 = 70 := by decide +kernel
theorem e_X2_init_70 : decode cX2_init 70 = .ok (.aload_n 0, 1) ∧ 70 + 1 = 71 := by decide +kernel
theorem e_X2_init_71 : decode cX2_init 71 = .ok (.bipush 6, 2) ∧ 71 + 2 = 73 := by decide +kernel
theorem e_X2_init_73 : decode cX2_init 73 = .ok (.newarray .int, 2) ∧ 73 + 2 = 75 := by decide +kernel
theorem e_X2_init_75 : decode cX2_init 75 = .ok (.putfield 40, 3) ∧ 75 + 3 = 78 := by decide +kernel
theorem e_X2_init_78 : decode cX2_init 78 = .ok (.aload_n 0, 1) ∧ 78 + 1 = 79 := by decide +kernel
theorem e_X2_init_79 : decode cX2_init 79 = .ok (.bipush 6, 2) ∧ 79 + 2 = 81 := by decide +kernel
theorem e_X2_init_81 : decode cX2_init 81 = .ok (.newarray .int, 2) ∧ 81 + 2 = 83 := by decide +kernel
theorem e_X2_init_83 : decode cX2_init 83 = .ok (.putfield 43, 3) ∧ 83 + 3 = 86 := by decide +kernel
theorem e_X2_init_86 : decode cX2_init 86 = .ok (.iconst 0, 1) ∧ 86 + 1 = 87 := by decide +kernel
theorem e_X2_init_87 : decode cX2_init 87 = .ok (.istore_n 1, 1) ∧ 87 + 1 = 88 := by decide +kernel
theorem e_X2_init_88 : decode cX2_init 88 = .ok (.iload_n 1, 1) ∧ 88 + 1 = 89 := by decide +kernel
theorem e_X2_init_89 : decode cX2_init 89 = .ok (.aload_n 0, 1) ∧ 89 + 1 = 90 := by decide +kernel
theorem e_X2_init_90 : decode cX2_init 90 = .ok (.getfield 33, 3) ∧ 90 + 3 = 93 := by decide +kernel
theorem e_X2_init_93 : decode cX2_init 93 = .ok (.arraylength, 1) ∧ 93 + 1 = 94 := by decide +kernel
theorem e_X2_init_94 : decode cX2_init 94 = .ok (.if_icmp .ge 22, 3) ∧ 94 + 3 = 97 ∧ ((94 : Nat) : Int) + (22) = ((116 : Nat) : Int) := by decide +kernel
theorem e_X2_init_97 : decode cX2_init 97 = .ok (.aload_n 0, 1) ∧ 97 + 1 = 98 := by decide +kernel
theorem e_X2_init_98 : decode cX2_init 98 = .ok (.getfield 33, 3) ∧ 98 + 3 = 101 := by decide +kernel
theorem e_X2_init_101 : decode cX2_init 101 = .ok (.iload_n 1, 1) ∧ 101 + 1 = 102 := by decide +kernel
theorem e_X2_init_102 : decode cX2_init 102 = .ok (.new 20, 3) ∧ 102 + 3 = 105 := by decide +kernel
theorem e_X2_init_105 : decode cX2_init 105 = .ok (.dup, 1) ∧ 105 + 1 = 106 := by decide +kernel
theorem e_X2_init_106 : decode cX2_init 106 = .ok (.invokespecial 22, 3) ∧ 106 + 3 = 109 := by decide +kernel
theorem e_X2_init_109 : decode cX2_init 109 = .ok (.aastore, 1) ∧ 109 + 1 = 110 := by decide +kernel
theorem e_X2_init_110 : decode cX2_init 110 = .ok (.iinc 1 1, 3) ∧ 110 + 3 = 113 := by decide +kernel
theorem e_X2_init_113 : decode cX2_init 113 = .ok (.goto (-25), 3) ∧ 113 + 3 = 116 ∧ ((113 : Nat) : Int) + (-25) = ((88 : Nat) : Int) := by decide +kernel
theorem e_X2_init_116 : decode cX2_init 116 = .ok (.iconst 0, 1) ∧ 116 + 1 = 117 := by decide +kernel
theorem e_X2_init_117 : decode cX2_init 117 = .ok (.istore_n 1, 1) ∧ 117 + 1 = 118 := by decide +kernel
theorem e_X2_init_118 : decode cX2_init 118 = .ok (.iload_n 1, 1) ∧ 118 + 1 = 119 := by decide +kernel
theorem e_X2_init_119 : decode cX2_init 119 = .ok (.aload_n 0, 1) ∧ 119 + 1 = 120 := by decide +kernel
theorem e_X2_init_120 : decode cX2_init 120 = .ok (.getfield 37, 3) ∧ 120 + 3 = 123 := by decide +kernel
theorem e_X2_init_123 : decode cX2_init 123 = .ok (.arraylength, 1) ∧ 123 + 1 = 124 := by decide +kernel
theorem e_X2_init_124 : decode cX2_init 124 = .ok (.if_icmp .ge 22, 3) ∧ 124 + 3 = 127 ∧ ((124 : Nat) : Int) + (22) = ((146 : Nat) : Int) := by decide +kernel
theorem e_X2_init_127 : decode cX2_init 127 = .ok (.aload_n 0, 1) ∧ 127 + 1 = 128 := by decide +kernel
theorem e_X2_init_128 : decode cX2_init 128 = .ok (.getfield 37, 3) ∧ 128 + 3 = 131 := by decide +kernel
theorem e_X2_init_131 : decode cX2_init 131 = .ok (.iload_n 1, 1) ∧ 131 + 1 = 132 := by decide +kernel
theorem e_X2_init_132 : decode cX2_init 132 = .ok (.new 20, 3) ∧ 132 + 3 = 135 := by decide +kernel
theorem e_X2_init_135 : decode cX2_init 135 = .ok (.dup, 1) ∧ 135 + 1 = 136 := by decide +kernel
theorem e_X2_init_136 : decode cX2_init 136 = .ok (.invokespecial 22, 3) ∧ 136 + 3 = 139 := by decide +kernel
theorem e_X2_init_139 : decode cX2_init 139 = .ok (.aastore, 1) ∧ 139 + 1 = 140 := by decide +kernel
theorem e_X2_init_140 : decode cX2_init 140 = .ok (.iinc 1 1, 3) ∧ 140 + 3 = 143 := by decide +kernel
theorem e_X2_init_143 : decode cX2_init 143 = .ok (.goto (-25), 3) ∧ 143 + 3 = 146 ∧ ((143 : Nat) : Int) + (-25) = ((118 : Nat) : Int) := by decide +kernel
theorem e_X2_init_146 : decode cX2_init 146 = .ok (.return_, 1) := by decide +kernel
theorem e_X2_write_0 : decode cX2_write 0 = .ok (.iload_n 1, 1) ∧ 0 + 1 = 1 := by decide +kernel
theorem e_X2_write_1 : decode cX2_write 1 = .ok (.iconst 1, 1) ∧ 1 + 1 = 2 := by decide +kernel
theorem e_X2_write_2 : decode cX2_write 2 = .ok (.if_icmp .lt 9, 3) ∧ 2 + 3 = 5 ∧ ((2 : Nat) : Int) + (9) = ((11 : Nat) : Int) := by decide +kernel
theorem e_X2_write_5 : decode cX2_write 5 = .ok (.iload_n 1, 1) ∧ 5 + 1 = 6 := by decide +kernel
theorem e_X2_write_6 : decode cX2_write 6 = .ok (.bipush 8, 2) ∧ 6 + 2 = 8 := by decide +kernel
theorem e_X2_write_8 : decode cX2_write 8 = .ok (.if_icmp .le 6, 3) ∧ 8 + 3 = 11 ∧ ((8 : Nat) : Int) + (6) = ((14 : Nat) : Int) := by decide +kernel
theorem e_X2_write_11 : decode cX2_write 11 = .ok (.bipush (-2), 2) ∧ 11 + 2 = 13 := by decide +kernel
theorem e_X2_write_13 : decode cX2_write 13 = .ok (.ireturn, 1) := by decide +kernel
theorem e_X2_write_14 : decode cX2_write 14 = .ok (.aload_n 0, 1) ∧ 14 + 1 = 15 := by decide +kernel
theorem e_X2_write_15 : decode cX2_write 15 = .ok (.getfield 46, 3) ∧ 15 + 3 = 18 := by decide +kernel
theorem e_X2_write_18 : decode cX2_write 18 = .ok (.iload_n 1, 1) ∧ 18 + 1 = 19 := by decide +kernel
theorem e_X2_write_19 : decode cX2_write 19 = .ok (.iadd, 1) ∧ 19 + 1 = 20 := by decide +kernel
theorem e_X2_write_20 : decode cX2_write 20 = .ok (.bipush 72, 2) ∧ 20 + 2 = 22 := by decide +kernel
theorem e_X2_write_22 : decode cX2_write 22 = .ok (.if_icmp .le 6, 3) ∧ 22 + 3 = 25 ∧ ((22 : Nat) : Int) + (6) = ((28 : Nat) : Int) := by decide +kernel
theorem e_X2_write_25 : decode cX2_write 25 = .ok (.bipush (-4), 2) ∧ 25 + 2 = 27 := by decide +kernel
theorem e_X2_write_27 : decode cX2_write 27 = .ok (.ireturn, 1) := by decide +kernel
theorem e_X2_write_28 : decode cX2_write 28 = .ok (.iload_n 1, 1) ∧ 28 + 1 = 29 := by decide +kernel
theorem e_X2_write_29 : decode cX2_write 29 = .ok (.iconst 1, 1) ∧ 29 + 1 = 30 := by decide +kernel
theorem e_X2_write_30 : decode cX2_write 30 = .ok (.isub, 1) ∧ 30 + 1 = 31 := by decide +kernel
theorem e_X2_write_31 : decode cX2_write 31 = .ok (.istore 4, 2) ∧ 31 + 2 = 33 := by decide +kernel
theorem e_X2_write_33 : decode cX2_write 33 = .ok (.iload 4, 2) ∧ 33 + 2 = 35 := by decide +kernel
theorem e_X2_write_35 : decode cX2_write 35 = .ok (.ifCond .lt 42, 3) ∧ 35 + 3 = 38 ∧ ((35 : Nat) : Int) + (42) = ((77 : Nat) : Int) := by decide +kernel
theorem e_X2_write_38 : decode cX2_write 38 = .ok (.aload_n 0, 1) ∧ 38 + 1 = 39 := by decide +kernel
theorem e_X2_write_39 : decode cX2_write 39 = .ok (.getfield 9, 3) ∧ 39 + 3 = 42 := by decide +kernel
theorem e_X2_write_42 : decode cX2_write 42 = .ok (.aload_n 0, 1) ∧ 42 + 1 = 43 := by decide +kernel
theorem e_X2_write_43 : decode cX2_write 43 = .ok (.getfield 46, 3) ∧ 43 + 3 = 46 := by decide +kernel
theorem e_X2_write_46 : decode cX2_write 46 = .ok (.lload_n 2, 1) ∧ 46 + 1 = 47 := by decide +kernel
theorem e_X2_write_47 : decode cX2_write 47 = .ok (.bipush 8, 2) ∧ 47 + 2 = 49 := by decide +kernel
theorem e_X2_write_49 : decode cX2_write 49 = .ok (.iload 4, 2) ∧ 49 + 2 = 51 := by decide +kernel
theorem e_X2_write_51 : decode cX2_write 51 = .ok (.imul, 1) ∧ 51 + 1 = 52 := by decide +kernel
theorem e_X2_write_52 : decode cX2_write 52 = .ok (.lushr, 1) ∧ 52 + 1 = 53 := by decide +kernel
theorem e_X2_write_53 : decode cX2_write 53 = .ok (.l2i, 1) ∧ 53 + 1 = 54 := by decide +kernel
theorem e_X2_write_54 : decode cX2_write 54 = .ok (.sipush 255, 3) ∧ 54 + 3 = 57 := by decide +kernel
theorem e_X2_write_57 : decode cX2_write 57 = .ok (.iand, 1) ∧ 57 + 1 = 58 := by decide +kernel
theorem e_X2_write_58 : decode cX2_write 58 = .ok (.invokestatic 50, 3) ∧ 58 + 3 = 61 := by decide +kernel
theorem e_X2_write_61 : decode cX2_write 61 = .ok (.aload_n 0, 1) ∧ 61 + 1 = 62 := by decide +kernel
theorem e_X2_write_62 : decode cX2_write 62 = .ok (.dup, 1) ∧ 62 + 1 = 63 := by decide +kernel
theorem e_X2_write_63 : decode cX2_write 63 = .ok (.getfield 46, 3) ∧ 63 + 3 = 66 := by decide +kernel
theorem e_X2_write_66 : decode cX2_write 66 = .ok (.iconst 1, 1) ∧ 66 + 1 = 67 := by decide +kernel
theorem e_X2_write_67 : decode cX2_write 67 = .ok (.iadd, 1) ∧ 67 + 1 = 68 := by decide +kernel
theorem e_X2_write_68 : decode cX2_write 68 = .ok (.putfield 46, 3) ∧ 68 + 3 = 71 := by decide +kernel
theorem e_X2_write_71 : decode cX2_write 71 = .ok (.iinc 4 (-1), 3) ∧ 71 + 3 = 74 := by decide +kernel
theorem e_X2_write_74 : decode cX2_write 74 = .ok (.goto (-41), 3) ∧ 74 + 3 = 77 ∧ ((74 : Nat) : Int) + (-41) = ((33 : Nat) : Int) := by decide +kernel
theorem e_X2_write_77 : decode cX2_write 77 = .ok (.aload_n 0, 1) ∧ 77 + 1 = 78 := by decide +kernel
theorem e_X2_write_78 : decode cX2_write 78 = .ok (.getfield 46, 3) ∧ 78 + 3 = 81 := by decide +kernel
theorem e_X2_write_81 : decode cX2_write 81 = .ok (.ireturn, 1) := by decide +kernel
theorem e_X2_wipe_0 : decode cX2_wipe 0 = .ok (.aload_n 0, 1) ∧ 0 + 1 = 1 := by decide +kernel
theorem e_X2_wipe_1 : decode cX2_wipe 1 = .ok (.getfield 46, 3) ∧ 1 + 3 = 4 := by decide +kernel
theorem e_X2_wipe_4 : decode cX2_wipe 4 = .ok (.istore_n 1, 1) ∧ 4 + 1 = 5 := by decide +kernel
theorem e_X2_wipe_5 : decode cX2_wipe 5 = .ok (.aload_n 0, 1) ∧ 5 + 1 = 6 := by decide +kernel
theorem e_X2_wipe_6 : decode cX2_wipe 6 = .ok (.iconst 0, 1) ∧ 6 + 1 = 7 := by decide +kernel
theorem e_X2_wipe_7 : decode cX2_wipe 7 = .ok (.putfield 46, 3) ∧ 7 + 3 = 10 := by decide +kernel
theorem e_X2_wipe_10 : decode cX2_wipe 10 = .ok (.iload_n 1, 1) ∧ 10 + 1 = 11 := by decide +kernel
theorem e_X2_wipe_11 : decode cX2_wipe 11 = .ok (.ireturn, 1) := by decide +kernel
theorem e_X2_fault_0 : decode cX2_fault 0 = .ok (.aload_n 0, 1) ∧ 0 + 1 = 1 := by decide +kernel
theorem e_X2_fault_1 : decode cX2_fault 1 = .ok (.invokevirtual 54, 3) ∧ 1 + 3 = 4 := by decide +kernel
theorem e_X2_fault_4 : decode cX2_fault 4 = .ok (.ireturn, 1) := by decide +kernel
theorem e_X2_mine_0 : decode cX2_mine 0 = .ok (.aload_n 0, 1) ∧ 0 + 1 = 1 := by decide +kernel
theorem e_X2_mine_1 : decode cX2_mine 1 = .ok (.invokevirtual 54, 3) ∧ 1 + 3 = 4 := by decide +kernel
theorem e_X2_mine_4 : decode cX2_mine 4 = .ok (.bipush (-9), 2) ∧ 4 + 2 = 6 := by decide +kernel
theorem e_X2_mine_6 : decode cX2_mine 6 = .ok (.if_icmp .eq 6, 3) ∧ 6 + 3 = 9 ∧ ((6 : Nat) : Int) + (6) = ((12 : Nat) : Int) := by decide +kernel
theorem e_X2_mine_9 : decode cX2_mine 9 = .ok (.bipush (-3), 2) ∧ 9 + 2 = 11 := by decide +kernel
theorem e_X2_mine_11 : decode cX2_mine 11 = .ok (.ireturn, 1) := by decide +kernel
theorem e_X2_mine_12 : decode cX2_mine 12 = .ok (.aload_n 0, 1) ∧ 12 + 1 = 13 := by decide +kernel
theorem e_X2_mine_13 : decode cX2_mine 13 = .ok (.getfield 23, 3) ∧ 13 + 3 = 16 := by decide +kernel
theorem e_X2_mine_16 : decode cX2_mine 16 = .ok (.aload_n 0, 1) ∧ 16 + 1 = 17 := by decide +kernel
theorem e_X2_mine_17 : decode cX2_mine 17 = .ok (.getfield 16, 3) ∧ 17 + 3 = 20 := by decide +kernel
theorem e_X2_mine_20 : decode cX2_mine 20 = .ok (.getfield 58, 3) ∧ 20 + 3 = 23 := by decide +kernel
theorem e_X2_mine_23 : decode cX2_mine 23 = .ok (.invokevirtual 61, 3) ∧ 23 + 3 = 26 := by decide +kernel
theorem e_X2_mine_26 : decode cX2_mine 26 = .ok (.aload_n 0, 1) ∧ 26 + 1 = 27 := by decide +kernel
theorem e_X2_mine_27 : decode cX2_mine 27 = .ok (.iconst 0, 1) ∧ 27 + 1 = 28 := by decide +kernel
theorem e_X2_mine_28 : decode cX2_mine 28 = .ok (.putfield 65, 3) ∧ 28 + 3 = 31 := by decide +kernel
theorem e_X2_mine_31 : decode cX2_mine 31 = .ok (.aload_n 0, 1) ∧ 31 + 1 = 32 := by decide +kernel
theorem e_X2_mine_32 : decode cX2_mine 32 = .ok (.iconst 0, 1) ∧ 32 + 1 = 33 := by decide +kernel
theorem e_X2_mine_33 : decode cX2_mine 33 = .ok (.putfield 68, 3) ∧ 33 + 3 = 36 := by decide +kernel
theorem e_X2_mine_36 : decode cX2_mine 36 = .ok (.aload_n 0, 1) ∧ 36 + 1 = 37 := by decide +kernel
theorem e_X2_mine_37 : decode cX2_mine 37 = .ok (.getfield 23, 3) ∧ 37 + 3 = 40 := by decide +kernel
theorem e_X2_mine_40 : decode cX2_mine 40 = .ok (.getfield 71, 3) ∧ 40 + 3 = 43 := by decide +kernel
theorem e_X2_mine_43 : decode cX2_mine 43 = .ok (.ireturn, 1) := by decide +kernel
theorem e_X2_about_0 : decode cX2_about 0 = .ok (.iload_n 1, 1) ∧ 0 + 1 = 1 := by decide +kernel
theorem e_X2_about_1 : decode cX2_about 1 = .ok (.tableswitch 126 0 9 #[55, 63, 71, 79, 87, 95, 103, 111, 116, 121], 55) := by decide +kernel
theorem e_X2_about_56 : decode cX2_about 56 = .ok (.aload_n 0, 1) ∧ 56 + 1 = 57 := by decide +kernel
theorem e_X2_about_57 : decode cX2_about 57 = .ok (.getfield 23, 3) ∧ 57 + 3 = 60 := by decide +kernel
theorem e_X2_about_60 : decode cX2_about 60 = .ok (.getfield 74, 3) ∧ 60 + 3 = 63 := by decide +kernel
theorem e_X2_about_63 : decode cX2_about 63 = .ok (.ireturn, 1) := by decide +kernel
theorem e_X2_about_64 : decode cX2_about 64 = .ok (.aload_n 0, 1) ∧ 64 + 1 = 65 := by decide +kernel
theorem e_X2_about_65 : decode cX2_about 65 = .ok (.getfield 23, 3) ∧ 65 + 3 = 68 := by decide +kernel
theorem e_X2_about_68 : decode cX2_about 68 = .ok (.getfield 71, 3) ∧ 68 + 3 = 71 := by decide +kernel
theorem e_X2_about_71 : decode cX2_about 71 = .ok (.ireturn, 1) := by decide +kernel
theorem e_X2_about_72 : decode cX2_about 72 = .ok (.aload_n 0, 1) ∧ 72 + 1 = 73 := by decide +kernel
theorem e_X2_about_73 : decode cX2_about 73 = .ok (.getfield 23, 3) ∧ 73 + 3 = 76 := by decide +kernel
theorem e_X2_about_76 : decode cX2_about 76 = .ok (.getfield 77, 3) ∧ 76 + 3 = 79 := by decide +kernel
theorem e_X2_about_79 : decode cX2_about 79 = .ok (.ireturn, 1) := by decide +kernel
theorem e_X2_about_80 : decode cX2_about 80 = .ok (.aload_n 0, 1) ∧ 80 + 1 = 81 := by decide +kernel
theorem e_X2_about_81 : decode cX2_about 81 = .ok (.getfield 23, 3) ∧ 81 + 3 = 84 := by decide +kernel
theorem e_X2_about_84 : decode cX2_about 84 = .ok (.getfield 80, 3) ∧ 84 + 3 = 87 := by decide +kernel
theorem e_X2_about_87 : decode cX2_about 87 = .ok (.ireturn, 1) := by decide +kernel
theorem e_X2_about_88 : decode cX2_about 88 = .ok (.aload_n 0, 1) ∧ 88 + 1 = 89 := by decide +kernel
theorem e_X2_about_89 : decode cX2_about 89 = .ok (.getfield 23, 3) ∧ 89 + 3 = 92 := by decide +kernel
theorem e_X2_about_92 : decode cX2_about 92 = .ok (.getfield 83, 3) ∧ 92 + 3 = 95 := by decide +kernel
theorem e_X2_about_95 : decode cX2_about 95 = .ok (.ireturn, 1) := by decide +kernel
theorem e_X2_about_96 : decode cX2_about 96 = .ok (.aload_n 0, 1) ∧ 96 + 1 = 97 := by decide +kernel
theorem e_X2_about_97 : decode cX2_about 97 = .ok (.getfield 23, 3) ∧ 97 + 3 = 100 := by decide +kernel
theorem e_X2_about_100 : decode cX2_about 100 = .ok (.getfield 86, 3) ∧ 100 + 3 = 103 := by decide +kernel
theorem e_X2_about_103 : decode cX2_about 103 = .ok (.ireturn, 1) := by decide +kernel
theorem e_X2_about_104 : decode cX2_about 104 = .ok (.aload_n 0, 1) ∧ 104 + 1 = 105 := by decide +kernel
theorem e_X2_about_105 : decode cX2_about 105 = .ok (.getfield 23, 3) ∧ 105 + 3 = 108 := by decide +kernel
theorem e_X2_about_108 : decode cX2_about 108 = .ok (.invokevirtual 89, 3) ∧ 108 + 3 = 111 := by decide +kernel
theorem e_X2_about_111 : decode cX2_about 111 = .ok (.ireturn, 1) := by decide +kernel
theorem e_X2_about_112 : decode cX2_about 112 = .ok (.aload_n 0, 1) ∧ 112 + 1 = 113 := by decide +kernel
theorem e_X2_about_113 : decode cX2_about 113 = .ok (.getfield 65, 3) ∧ 113 + 3 = 116 := by decide +kernel
theorem e_X2_about_116 : decode cX2_about 116 = .ok (.ireturn, 1) := by decide +kernel
theorem e_X2_about_117 : decode cX2_about 117 = .ok (.aload_n 0, 1) ∧ 117 + 1 = 118 := by decide +kernel
theorem e_X2_about_118 : decode cX2_about 118 = .ok (.getfield 92, 3) ∧ 118 + 3 = 121 := by decide +kernel
theorem e_X2_about_121 : decode cX2_about 121 = .ok (.ireturn, 1) := by decide +kernel
theorem e_X2_about_122 : decode cX2_about 122 = .ok (.aload_n 0, 1) ∧ 122 + 1 = 123 := by decide +kernel
theorem e_X2_about_123 : decode cX2_about 123 = .ok (.getfield 46, 3) ∧ 123 + 3 = 126 := by decide +kernel
theorem e_X2_about_126 : decode cX2_about 126 = .ok (.ireturn, 1) := by decide +kernel
theorem e_X2_about_127 : decode cX2_about 127 = .ok (.bipush (-2), 2) ∧ 127 + 2 = 129 := by decide +kernel
theorem e_X2_about_129 : decode cX2_about 129 = .ok (.ireturn, 1) := by decide +kernel
theorem e_X2_cell_0 : decode cX2_cell 0 = .ok (.iload_n 1, 1) ∧ 0 + 1 = 1 := by decide +kernel
theorem e_X2_cell_1 : decode cX2_cell 1 = .ok (.invokestatic 95, 3) ∧ 1 + 3 = 4 := by decide +kernel
theorem e_X2_cell_4 : decode cX2_cell 4 = .ok (.ifCond .ne 5, 3) ∧ 4 + 3 = 7 ∧ ((4 : Nat) : Int) + (5) = ((9 : Nat) : Int) := by decide +kernel
theorem e_X2_cell_7 : decode cX2_cell 7 = .ok (.iconst (-1), 1) ∧ 7 + 1 = 8 := by decide +kernel
theorem e_X2_cell_8 : decode cX2_cell 8 = .ok (.ireturn, 1) := by decide +kernel
theorem e_X2_cell_9 : decode cX2_cell 9 = .ok (.iload_n 2, 1) ∧ 9 + 1 = 10 := by decide +kernel
theorem e_X2_cell_10 : decode cX2_cell 10 = .ok (.tableswitch 114 0 5 #[38, 50, 62, 74, 86, 103], 38) := by decide +kernel
theorem e_X2_cell_48 : decode cX2_cell 48 = .ok (.aload_n 0, 1) ∧ 48 + 1 = 49 := by decide +kernel
theorem e_X2_cell_49 : decode cX2_cell 49 = .ok (.getfield 23, 3) ∧ 49 + 3 = 52 := by decide +kernel
theorem e_X2_cell_52 : decode cX2_cell 52 = .ok (.getfield 99, 3) ∧ 52 + 3 = 55 := by decide +kernel
theorem e_X2_cell_55 : decode cX2_cell 55 = .ok (.iload_n 1, 1) ∧ 55 + 1 = 56 := by decide +kernel
theorem e_X2_cell_56 : decode cX2_cell 56 = .ok (.invokestatic 102, 3) ∧ 56 + 3 = 59 := by decide +kernel
theorem e_X2_cell_59 : decode cX2_cell 59 = .ok (.ireturn, 1) := by decide +kernel
theorem e_X2_cell_60 : decode cX2_cell 60 = .ok (.aload_n 0, 1) ∧ 60 + 1 = 61 := by decide +kernel
theorem e_X2_cell_61 : decode cX2_cell 61 = .ok (.getfield 23, 3) ∧ 61 + 3 = 64 := by decide +kernel
theorem e_X2_cell_64 : decode cX2_cell 64 = .ok (.getfield 106, 3) ∧ 64 + 3 = 67 := by decide +kernel
theorem e_X2_cell_67 : decode cX2_cell 67 = .ok (.iload_n 1, 1) ∧ 67 + 1 = 68 := by decide +kernel
theorem e_X2_cell_68 : decode cX2_cell 68 = .ok (.invokestatic 102, 3) ∧ 68 + 3 = 71 := by decide +kernel
theorem e_X2_cell_71 : decode cX2_cell 71 = .ok (.ireturn, 1) := by decide +kernel
theorem e_X2_cell_72 : decode cX2_cell 72 = .ok (.aload_n 0, 1) ∧ 72 + 1 = 73 := by decide +kernel
theorem e_X2_cell_73 : decode cX2_cell 73 = .ok (.getfield 23, 3) ∧ 73 + 3 = 76 := by decide +kernel
theorem e_X2_cell_76 : decode cX2_cell 76 = .ok (.getfield 109, 3) ∧ 76 + 3 = 79 := by decide +kernel
theorem e_X2_cell_79 : decode cX2_cell 79 = .ok (.iload_n 1, 1) ∧ 79 + 1 = 80 := by decide +kernel
theorem e_X2_cell_80 : decode cX2_cell 80 = .ok (.invokestatic 102, 3) ∧ 80 + 3 = 83 := by decide +kernel
theorem e_X2_cell_83 : decode cX2_cell 83 = .ok (.ireturn, 1) := by decide +kernel
theorem e_X2_cell_84 : decode cX2_cell 84 = .ok (.aload_n 0, 1) ∧ 84 + 1 = 85 := by decide +kernel
theorem e_X2_cell_85 : decode cX2_cell 85 = .ok (.getfield 23, 3) ∧ 85 + 3 = 88 := by decide +kernel
theorem e_X2_cell_88 : decode cX2_cell 88 = .ok (.getfield 112, 3) ∧ 88 + 3 = 91 := by decide +kernel
theorem e_X2_cell_91 : decode cX2_cell 91 = .ok (.iload_n 1, 1) ∧ 91 + 1 = 92 := by decide +kernel
theorem e_X2_cell_92 : decode cX2_cell 92 = .ok (.invokestatic 102, 3) ∧ 92 + 3 = 95 := by decide +kernel
theorem e_X2_cell_95 : decode cX2_cell 95 = .ok (.ireturn, 1) := by decide +kernel
theorem e_X2_cell_96 : decode cX2_cell 96 = .ok (.aload_n 0, 1) ∧ 96 + 1 = 97 := by decide +kernel
theorem e_X2_cell_97 : decode cX2_cell 97 = .ok (.getfield 23, 3) ∧ 97 + 3 = 100 := by decide +kernel
theorem e_X2_cell_100 : decode cX2_cell 100 = .ok (.iload_n 1, 1) ∧ 100 + 1 = 101 := by decide +kernel
theorem e_X2_cell_101 : decode cX2_cell 101 = .ok (.invokevirtual 115, 3) ∧ 101 + 3 = 104 := by decide +kernel
theorem e_X2_cell_104 : decode cX2_cell 104 = .ok (.ifCond .eq 7, 3) ∧ 104 + 3 = 107 ∧ ((104 : Nat) : Int) + (7) = ((111 : Nat) : Int) := by decide +kernel
theorem e_X2_cell_107 : decode cX2_cell 107 = .ok (.iconst 1, 1) ∧ 107 + 1 = 108 := by decide +kernel
theorem e_X2_cell_108 : decode cX2_cell 108 = .ok (.goto 4, 3) ∧ 108 + 3 = 111 ∧ ((108 : Nat) : Int) + (4) = ((112 : Nat) : Int) := by decide +kernel
theorem e_X2_cell_111 : decode cX2_cell 111 = .ok (.iconst 0, 1) ∧ 111 + 1 = 112 := by decide +kernel
theorem e_X2_cell_112 : decode cX2_cell 112 = .ok (.ireturn, 1) := by decide +kernel
theorem e_X2_cell_113 : decode cX2_cell 113 = .ok (.aload_n 0, 1) ∧ 113 + 1 = 114 := by decide +kernel
theorem e_X2_cell_114 : decode cX2_cell 114 = .ok (.getfield 23, 3) ∧ 114 + 3 = 117 := by decide +kernel
theorem e_X2_cell_117 : decode cX2_cell 117 = .ok (.iconst 1, 1) ∧ 117 + 1 = 118 := by decide +kernel
theorem e_X2_cell_118 : decode cX2_cell 118 = .ok (.iload_n 1, 1) ∧ 118 + 1 = 119 := by decide +kernel
theorem e_X2_cell_119 : decode cX2_cell 119 = .ok (.ishl, 1) ∧ 119 + 1 = 120 := by decide +kernel
theorem e_X2_cell_120 : decode cX2_cell 120 = .ok (.invokevirtual 118, 3) ∧ 120 + 3 = 123 := by decide +kernel
theorem e_X2_cell_123 : decode cX2_cell 123 = .ok (.ireturn, 1) := by decide +kernel
theorem e_X2_cell_124 : decode cX2_cell 124 = .ok (.bipush (-2), 2) ∧ 124 + 2 = 126 := by decide +kernel
theorem e_X2_cell_126 : decode cX2_cell 126 = .ok (.ireturn, 1) := by decide +kernel
theorem e_X2_monk_0 : decode cX2_monk 0 = .ok (.aload_n 0, 1) ∧ 0 + 1 = 1 := by decide +kernel
theorem e_X2_monk_1 : decode cX2_monk 1 = .ok (.getfield 23, 3) ∧ 1 + 3 = 4 := by decide +kernel
theorem e_X2_monk_4 : decode cX2_monk 4 = .ok (.iload_n 1, 1) ∧ 4 + 1 = 5 := by decide +kernel
theorem e_X2_monk_5 : decode cX2_monk 5 = .ok (.invokevirtual 122, 3) ∧ 5 + 3 = 8 := by decide +kernel
theorem e_X2_monk_8 : decode cX2_monk 8 = .ok (.ifCond .ne 5, 3) ∧ 8 + 3 = 11 ∧ ((8 : Nat) : Int) + (5) = ((13 : Nat) : Int) := by decide +kernel
theorem e_X2_monk_11 : decode cX2_monk 11 = .ok (.iconst (-1), 1) ∧ 11 + 1 = 12 := by decide +kernel
theorem e_X2_monk_12 : decode cX2_monk 12 = .ok (.ireturn, 1) := by decide +kernel
theorem e_X2_monk_13 : decode cX2_monk 13 = .ok (.iload_n 2, 1) ∧ 13 + 1 = 14 := by decide +kernel
theorem e_X2_monk_14 : decode cX2_monk 14 = .ok (.tableswitch 72 0 3 #[30, 39, 51, 63], 30) := by decide +kernel
theorem e_X2_monk_44 : decode cX2_monk 44 = .ok (.aload_n 0, 1) ∧ 44 + 1 = 45 := by decide +kernel
theorem e_X2_monk_45 : decode cX2_monk 45 = .ok (.getfield 23, 3) ∧ 45 + 3 = 48 := by decide +kernel
theorem e_X2_monk_48 : decode cX2_monk 48 = .ok (.iload_n 1, 1) ∧ 48 + 1 = 49 := by decide +kernel
theorem e_X2_monk_49 : decode cX2_monk 49 = .ok (.invokevirtual 125, 3) ∧ 49 + 3 = 52 := by decide +kernel
theorem e_X2_monk_52 : decode cX2_monk 52 = .ok (.ireturn, 1) := by decide +kernel
theorem e_X2_monk_53 : decode cX2_monk 53 = .ok (.aload_n 0, 1) ∧ 53 + 1 = 54 := by decide +kernel
theorem e_X2_monk_54 : decode cX2_monk 54 = .ok (.getfield 23, 3) ∧ 54 + 3 = 57 := by decide +kernel
theorem e_X2_monk_57 : decode cX2_monk 57 = .ok (.getfield 128, 3) ∧ 57 + 3 = 60 := by decide +kernel
theorem e_X2_monk_60 : decode cX2_monk 60 = .ok (.iload_n 1, 1) ∧ 60 + 1 = 61 := by decide +kernel
theorem e_X2_monk_61 : decode cX2_monk 61 = .ok (.ishr, 1) ∧ 61 + 1 = 62 := by decide +kernel
theorem e_X2_monk_62 : decode cX2_monk 62 = .ok (.iconst 1, 1) ∧ 62 + 1 = 63 := by decide +kernel
theorem e_X2_monk_63 : decode cX2_monk 63 = .ok (.iand, 1) ∧ 63 + 1 = 64 := by decide +kernel
theorem e_X2_monk_64 : decode cX2_monk 64 = .ok (.ireturn, 1) := by decide +kernel
theorem e_X2_monk_65 : decode cX2_monk 65 = .ok (.aload_n 0, 1) ∧ 65 + 1 = 66 := by decide +kernel
theorem e_X2_monk_66 : decode cX2_monk 66 = .ok (.getfield 23, 3) ∧ 66 + 3 = 69 := by decide +kernel
theorem e_X2_monk_69 : decode cX2_monk 69 = .ok (.getfield 86, 3) ∧ 69 + 3 = 72 := by decide +kernel
theorem e_X2_monk_72 : decode cX2_monk 72 = .ok (.iload_n 1, 1) ∧ 72 + 1 = 73 := by decide +kernel
theorem e_X2_monk_73 : decode cX2_monk 73 = .ok (.ishr, 1) ∧ 73 + 1 = 74 := by decide +kernel
theorem e_X2_monk_74 : decode cX2_monk 74 = .ok (.iconst 1, 1) ∧ 74 + 1 = 75 := by decide +kernel
theorem e_X2_monk_75 : decode cX2_monk 75 = .ok (.iand, 1) ∧ 75 + 1 = 76 := by decide +kernel
theorem e_X2_monk_76 : decode cX2_monk 76 = .ok (.ireturn, 1) := by decide +kernel
theorem e_X2_monk_77 : decode cX2_monk 77 = .ok (.aload_n 0, 1) ∧ 77 + 1 = 78 := by decide +kernel
theorem e_X2_monk_78 : decode cX2_monk 78 = .ok (.getfield 23, 3) ∧ 78 + 3 = 81 := by decide +kernel
theorem e_X2_monk_81 : decode cX2_monk 81 = .ok (.iload_n 1, 1) ∧ 81 + 1 = 82 := by decide +kernel
theorem e_X2_monk_82 : decode cX2_monk 82 = .ok (.invokevirtual 131, 3) ∧ 82 + 3 = 85 := by decide +kernel
theorem e_X2_monk_85 : decode cX2_monk 85 = .ok (.ireturn, 1) := by decide +kernel
theorem e_X2_monk_86 : decode cX2_monk 86 = .ok (.bipush (-2), 2) ∧ 86 + 2 = 88 := by decide +kernel
theorem e_X2_monk_88 : decode cX2_monk 88 = .ok (.ireturn, 1) := by decide +kernel
theorem e_X2_pray_0 : decode cX2_pray 0 = .ok (.aload_n 0, 1) ∧ 0 + 1 = 1 := by decide +kernel
theorem e_X2_pray_1 : decode cX2_pray 1 = .ok (.getfield 23, 3) ∧ 1 + 3 = 4 := by decide +kernel
theorem e_X2_pray_4 : decode cX2_pray 4 = .ok (.iload_n 1, 1) ∧ 4 + 1 = 5 := by decide +kernel
theorem e_X2_pray_5 : decode cX2_pray 5 = .ok (.invokevirtual 122, 3) ∧ 5 + 3 = 8 := by decide +kernel
theorem e_X2_pray_8 : decode cX2_pray 8 = .ok (.ifCond .ne 5, 3) ∧ 8 + 3 = 11 ∧ ((8 : Nat) : Int) + (5) = ((13 : Nat) : Int) := by decide +kernel
theorem e_X2_pray_11 : decode cX2_pray 11 = .ok (.iconst (-1), 1) ∧ 11 + 1 = 12 := by decide +kernel
theorem e_X2_pray_12 : decode cX2_pray 12 = .ok (.ireturn, 1) := by decide +kernel
theorem e_X2_pray_13 : decode cX2_pray 13 = .ok (.aload_n 0, 1) ∧ 13 + 1 = 14 := by decide +kernel
theorem e_X2_pray_14 : decode cX2_pray 14 = .ok (.getfield 23, 3) ∧ 14 + 3 = 17 := by decide +kernel
theorem e_X2_pray_17 : decode cX2_pray 17 = .ok (.iload_n 1, 1) ∧ 17 + 1 = 18 := by decide +kernel
theorem e_X2_pray_18 : decode cX2_pray 18 = .ok (.invokevirtual 134, 3) ∧ 18 + 3 = 21 := by decide +kernel
theorem e_X2_pray_21 : decode cX2_pray 21 = .ok (.ifCond .ne 6, 3) ∧ 21 + 3 = 24 ∧ ((21 : Nat) : Int) + (6) = ((27 : Nat) : Int) := by decide +kernel
theorem e_X2_pray_24 : decode cX2_pray 24 = .ok (.bipush (-3), 2) ∧ 24 + 2 = 26 := by decide +kernel
theorem e_X2_pray_26 : decode cX2_pray 26 = .ok (.ireturn, 1) := by decide +kernel
theorem e_X2_pray_27 : decode cX2_pray 27 = .ok (.aload_n 0, 1) ∧ 27 + 1 = 28 := by decide +kernel
theorem e_X2_pray_28 : decode cX2_pray 28 = .ok (.invokevirtual 137, 3) ∧ 28 + 3 = 31 := by decide +kernel
theorem e_X2_pray_31 : decode cX2_pray 31 = .ok (.aload_n 0, 1) ∧ 31 + 1 = 32 := by decide +kernel
theorem e_X2_pray_32 : decode cX2_pray 32 = .ok (.getfield 23, 3) ∧ 32 + 3 = 35 := by decide +kernel
theorem e_X2_pray_35 : decode cX2_pray 35 = .ok (.iload_n 1, 1) ∧ 35 + 1 = 36 := by decide +kernel
theorem e_X2_pray_36 : decode cX2_pray 36 = .ok (.invokevirtual 140, 3) ∧ 36 + 3 = 39 := by decide +kernel
theorem e_X2_pray_39 : decode cX2_pray 39 = .ok (.ireturn, 1) := by decide +kernel
theorem e_X2_oath_0 : decode cX2_oath 0 = .ok (.aload_n 0, 1) ∧ 0 + 1 = 1 := by decide +kernel
theorem e_X2_oath_1 : decode cX2_oath 1 = .ok (.getfield 23, 3) ∧ 1 + 3 = 4 := by decide +kernel
theorem e_X2_oath_4 : decode cX2_oath 4 = .ok (.iload_n 1, 1) ∧ 4 + 1 = 5 := by decide +kernel
theorem e_X2_oath_5 : decode cX2_oath 5 = .ok (.invokevirtual 122, 3) ∧ 5 + 3 = 8 := by decide +kernel
theorem e_X2_oath_8 : decode cX2_oath 8 = .ok (.ifCond .ne 5, 3) ∧ 8 + 3 = 11 ∧ ((8 : Nat) : Int) + (5) = ((13 : Nat) : Int) := by decide +kernel
theorem e_X2_oath_11 : decode cX2_oath 11 = .ok (.iconst (-1), 1) ∧ 11 + 1 = 12 := by decide +kernel
theorem e_X2_oath_12 : decode cX2_oath 12 = .ok (.ireturn, 1) := by decide +kernel
theorem e_X2_oath_13 : decode cX2_oath 13 = .ok (.aload_n 0, 1) ∧ 13 + 1 = 14 := by decide +kernel
theorem e_X2_oath_14 : decode cX2_oath 14 = .ok (.getfield 23, 3) ∧ 14 + 3 = 17 := by decide +kernel
theorem e_X2_oath_17 : decode cX2_oath 17 = .ok (.iload_n 1, 1) ∧ 17 + 1 = 18 := by decide +kernel
theorem e_X2_oath_18 : decode cX2_oath 18 = .ok (.invokevirtual 125, 3) ∧ 18 + 3 = 21 := by decide +kernel
theorem e_X2_oath_21 : decode cX2_oath 21 = .ok (.istore_n 2, 1) ∧ 21 + 1 = 22 := by decide +kernel
theorem e_X2_oath_22 : decode cX2_oath 22 = .ok (.aload_n 0, 1) ∧ 22 + 1 = 23 := by decide +kernel
theorem e_X2_oath_23 : decode cX2_oath 23 = .ok (.getfield 23, 3) ∧ 23 + 3 = 26 := by decide +kernel
theorem e_X2_oath_26 : decode cX2_oath 26 = .ok (.iload_n 1, 1) ∧ 26 + 1 = 27 := by decide +kernel
theorem e_X2_oath_27 : decode cX2_oath 27 = .ok (.invokevirtual 134, 3) ∧ 27 + 3 = 30 := by decide +kernel
theorem e_X2_oath_30 : decode cX2_oath 30 = .ok (.ifCond .eq 14, 3) ∧ 30 + 3 = 33 ∧ ((30 : Nat) : Int) + (14) = ((44 : Nat) : Int) := by decide +kernel
theorem e_X2_oath_33 : decode cX2_oath 33 = .ok (.aload_n 0, 1) ∧ 33 + 1 = 34 := by decide +kernel
theorem e_X2_oath_34 : decode cX2_oath 34 = .ok (.getfield 23, 3) ∧ 34 + 3 = 37 := by decide +kernel
theorem e_X2_oath_37 : decode cX2_oath 37 = .ok (.iload_n 2, 1) ∧ 37 + 1 = 38 := by decide +kernel
theorem e_X2_oath_38 : decode cX2_oath 38 = .ok (.invokevirtual 115, 3) ∧ 38 + 3 = 41 := by decide +kernel
theorem e_X2_oath_41 : decode cX2_oath 41 = .ok (.ifCond .eq 6, 3) ∧ 41 + 3 = 44 ∧ ((41 : Nat) : Int) + (6) = ((47 : Nat) : Int) := by decide +kernel
theorem e_X2_oath_44 : decode cX2_oath 44 = .ok (.bipush (-3), 2) ∧ 44 + 2 = 46 := by decide +kernel
theorem e_X2_oath_46 : decode cX2_oath 46 = .ok (.ireturn, 1) := by decide +kernel
theorem e_X2_oath_47 : decode cX2_oath 47 = .ok (.aload_n 0, 1) ∧ 47 + 1 = 48 := by decide +kernel
theorem e_X2_oath_48 : decode cX2_oath 48 = .ok (.getfield 23, 3) ∧ 48 + 3 = 51 := by decide +kernel
theorem e_X2_oath_51 : decode cX2_oath 51 = .ok (.getfield 109, 3) ∧ 51 + 3 = 54 := by decide +kernel
theorem e_X2_oath_54 : decode cX2_oath 54 = .ok (.iload_n 2, 1) ∧ 54 + 1 = 55 := by decide +kernel
theorem e_X2_oath_55 : decode cX2_oath 55 = .ok (.invokestatic 102, 3) ∧ 55 + 3 = 58 := by decide +kernel
theorem e_X2_oath_58 : decode cX2_oath 58 = .ok (.istore_n 3, 1) ∧ 58 + 1 = 59 := by decide +kernel
theorem e_X2_oath_59 : decode cX2_oath 59 = .ok (.iload_n 3, 1) ∧ 59 + 1 = 60 := by decide +kernel
theorem e_X2_oath_60 : decode cX2_oath 60 = .ok (.bipush 9, 2) ∧ 60 + 2 = 62 := by decide +kernel
theorem e_X2_oath_62 : decode cX2_oath 62 = .ok (.if_icmp .lt 6, 3) ∧ 62 + 3 = 65 ∧ ((62 : Nat) : Int) + (6) = ((68 : Nat) : Int) := by decide +kernel
theorem e_X2_oath_65 : decode cX2_oath 65 = .ok (.bipush (-4), 2) ∧ 65 + 2 = 67 := by decide +kernel
theorem e_X2_oath_67 : decode cX2_oath 67 = .ok (.ireturn, 1) := by decide +kernel
theorem e_X2_oath_68 : decode cX2_oath 68 = .ok (.aload_n 0, 1) ∧ 68 + 1 = 69 := by decide +kernel
theorem e_X2_oath_69 : decode cX2_oath 69 = .ok (.invokevirtual 137, 3) ∧ 69 + 3 = 72 := by decide +kernel
theorem e_X2_oath_72 : decode cX2_oath 72 = .ok (.aload_n 0, 1) ∧ 72 + 1 = 73 := by decide +kernel
theorem e_X2_oath_73 : decode cX2_oath 73 = .ok (.getfield 23, 3) ∧ 73 + 3 = 76 := by decide +kernel
theorem e_X2_oath_76 : decode cX2_oath 76 = .ok (.getfield 109, 3) ∧ 76 + 3 = 79 := by decide +kernel
theorem e_X2_oath_79 : decode cX2_oath 79 = .ok (.iload_n 2, 1) ∧ 79 + 1 = 80 := by decide +kernel
theorem e_X2_oath_80 : decode cX2_oath 80 = .ok (.iload_n 3, 1) ∧ 80 + 1 = 81 := by decide +kernel
theorem e_X2_oath_81 : decode cX2_oath 81 = .ok (.iconst 1, 1) ∧ 81 + 1 = 82 := by decide +kernel
theorem e_X2_oath_82 : decode cX2_oath 82 = .ok (.iadd, 1) ∧ 82 + 1 = 83 := by decide +kernel
theorem e_X2_oath_83 : decode cX2_oath 83 = .ok (.invokestatic 50, 3) ∧ 83 + 3 = 86 := by decide +kernel
theorem e_X2_oath_86 : decode cX2_oath 86 = .ok (.iload_n 3, 1) ∧ 86 + 1 = 87 := by decide +kernel
theorem e_X2_oath_87 : decode cX2_oath 87 = .ok (.iconst 1, 1) ∧ 87 + 1 = 88 := by decide +kernel
theorem e_X2_oath_88 : decode cX2_oath 88 = .ok (.iadd, 1) ∧ 88 + 1 = 89 := by decide +kernel
theorem e_X2_oath_89 : decode cX2_oath 89 = .ok (.ireturn, 1) := by decide +kernel
theorem e_X2_doubt_0 : decode cX2_doubt 0 = .ok (.aload_n 0, 1) ∧ 0 + 1 = 1 := by decide +kernel
theorem e_X2_doubt_1 : decode cX2_doubt 1 = .ok (.getfield 23, 3) ∧ 1 + 3 = 4 := by decide +kernel
theorem e_X2_doubt_4 : decode cX2_doubt 4 = .ok (.iload_n 1, 1) ∧ 4 + 1 = 5 := by decide +kernel
theorem e_X2_doubt_5 : decode cX2_doubt 5 = .ok (.invokevirtual 122, 3) ∧ 5 + 3 = 8 := by decide +kernel
theorem e_X2_doubt_8 : decode cX2_doubt 8 = .ok (.ifCond .ne 5, 3) ∧ 8 + 3 = 11 ∧ ((8 : Nat) : Int) + (5) = ((13 : Nat) : Int) := by decide +kernel
theorem e_X2_doubt_11 : decode cX2_doubt 11 = .ok (.iconst (-1), 1) ∧ 11 + 1 = 12 := by decide +kernel
theorem e_X2_doubt_12 : decode cX2_doubt 12 = .ok (.ireturn, 1) := by decide +kernel
theorem e_X2_doubt_13 : decode cX2_doubt 13 = .ok (.aload_n 0, 1) ∧ 13 + 1 = 14 := by decide +kernel
theorem e_X2_doubt_14 : decode cX2_doubt 14 = .ok (.getfield 23, 3) ∧ 14 + 3 = 17 := by decide +kernel
theorem e_X2_doubt_17 : decode cX2_doubt 17 = .ok (.iload_n 1, 1) ∧ 17 + 1 = 18 := by decide +kernel
theorem e_X2_doubt_18 : decode cX2_doubt 18 = .ok (.invokevirtual 134, 3) ∧ 18 + 3 = 21 := by decide +kernel
theorem e_X2_doubt_21 : decode cX2_doubt 21 = .ok (.ifCond .ne 6, 3) ∧ 21 + 3 = 24 ∧ ((21 : Nat) : Int) + (6) = ((27 : Nat) : Int) := by decide +kernel
theorem e_X2_doubt_24 : decode cX2_doubt 24 = .ok (.bipush (-3), 2) ∧ 24 + 2 = 26 := by decide +kernel
theorem e_X2_doubt_26 : decode cX2_doubt 26 = .ok (.ireturn, 1) := by decide +kernel
theorem e_X2_doubt_27 : decode cX2_doubt 27 = .ok (.aload_n 0, 1) ∧ 27 + 1 = 28 := by decide +kernel
theorem e_X2_doubt_28 : decode cX2_doubt 28 = .ok (.invokevirtual 137, 3) ∧ 28 + 3 = 31 := by decide +kernel
theorem e_X2_doubt_31 : decode cX2_doubt 31 = .ok (.aload_n 0, 1) ∧ 31 + 1 = 32 := by decide +kernel
theorem e_X2_doubt_32 : decode cX2_doubt 32 = .ok (.getfield 23, 3) ∧ 32 + 3 = 35 := by decide +kernel
theorem e_X2_doubt_35 : decode cX2_doubt 35 = .ok (.iload_n 1, 1) ∧ 35 + 1 = 36 := by decide +kernel
theorem e_X2_doubt_36 : decode cX2_doubt 36 = .ok (.invokevirtual 125, 3) ∧ 36 + 3 = 39 := by decide +kernel
theorem e_X2_doubt_39 : decode cX2_doubt 39 = .ok (.istore_n 2, 1) ∧ 39 + 1 = 40 := by decide +kernel
theorem e_X2_doubt_40 : decode cX2_doubt 40 = .ok (.iconst 0, 1) ∧ 40 + 1 = 41 := by decide +kernel
theorem e_X2_doubt_41 : decode cX2_doubt 41 = .ok (.aload_n 0, 1) ∧ 41 + 1 = 42 := by decide +kernel
theorem e_X2_doubt_42 : decode cX2_doubt 42 = .ok (.getfield 23, 3) ∧ 42 + 3 = 45 := by decide +kernel
theorem e_X2_doubt_45 : decode cX2_doubt 45 = .ok (.getfield 106, 3) ∧ 45 + 3 = 48 := by decide +kernel
theorem e_X2_doubt_48 : decode cX2_doubt 48 = .ok (.iload_n 2, 1) ∧ 48 + 1 = 49 := by decide +kernel
theorem e_X2_doubt_49 : decode cX2_doubt 49 = .ok (.invokestatic 102, 3) ∧ 49 + 3 = 52 := by decide +kernel
theorem e_X2_doubt_52 : decode cX2_doubt 52 = .ok (.iconst 1, 1) ∧ 52 + 1 = 53 := by decide +kernel
theorem e_X2_doubt_53 : decode cX2_doubt 53 = .ok (.isub, 1) ∧ 53 + 1 = 54 := by decide +kernel
theorem e_X2_doubt_54 : decode cX2_doubt 54 = .ok (.invokestatic 143, 3) ∧ 54 + 3 = 57 := by decide +kernel
theorem e_X2_doubt_57 : decode cX2_doubt 57 = .ok (.istore_n 3, 1) ∧ 57 + 1 = 58 := by decide +kernel
theorem e_X2_doubt_58 : decode cX2_doubt 58 = .ok (.aload_n 0, 1) ∧ 58 + 1 = 59 := by decide +kernel
theorem e_X2_doubt_59 : decode cX2_doubt 59 = .ok (.getfield 23, 3) ∧ 59 + 3 = 62 := by decide +kernel
theorem e_X2_doubt_62 : decode cX2_doubt 62 = .ok (.getfield 106, 3) ∧ 62 + 3 = 65 := by decide +kernel
theorem e_X2_doubt_65 : decode cX2_doubt 65 = .ok (.iload_n 2, 1) ∧ 65 + 1 = 66 := by decide +kernel
theorem e_X2_doubt_66 : decode cX2_doubt 66 = .ok (.iload_n 3, 1) ∧ 66 + 1 = 67 := by decide +kernel
theorem e_X2_doubt_67 : decode cX2_doubt 67 = .ok (.invokestatic 50, 3) ∧ 67 + 3 = 70 := by decide +kernel
theorem e_X2_doubt_70 : decode cX2_doubt 70 = .ok (.iload_n 3, 1) ∧ 70 + 1 = 71 := by decide +kernel
theorem e_X2_doubt_71 : decode cX2_doubt 71 = .ok (.ireturn, 1) := by decide +kernel
theorem e_X2_walk_0 : decode cX2_walk 0 = .ok (.aload_n 0, 1) ∧ 0 + 1 = 1 := by decide +kernel
theorem e_X2_walk_1 : decode cX2_walk 1 = .ok (.getfield 23, 3) ∧ 1 + 3 = 4 := by decide +kernel
theorem e_X2_walk_4 : decode cX2_walk 4 = .ok (.iload_n 1, 1) ∧ 4 + 1 = 5 := by decide +kernel
theorem e_X2_walk_5 : decode cX2_walk 5 = .ok (.invokevirtual 122, 3) ∧ 5 + 3 = 8 := by decide +kernel
theorem e_X2_walk_8 : decode cX2_walk 8 = .ok (.ifCond .eq 10, 3) ∧ 8 + 3 = 11 ∧ ((8 : Nat) : Int) + (10) = ((18 : Nat) : Int) := by decide +kernel
theorem e_X2_walk_11 : decode cX2_walk 11 = .ok (.iload_n 2, 1) ∧ 11 + 1 = 12 := by decide +kernel
theorem e_X2_walk_12 : decode cX2_walk 12 = .ok (.invokestatic 95, 3) ∧ 12 + 3 = 15 := by decide +kernel
theorem e_X2_walk_15 : decode cX2_walk 15 = .ok (.ifCond .ne 5, 3) ∧ 15 + 3 = 18 ∧ ((15 : Nat) : Int) + (5) = ((20 : Nat) : Int) := by decide +kernel
theorem e_X2_walk_18 : decode cX2_walk 18 = .ok (.iconst (-1), 1) ∧ 18 + 1 = 19 := by decide +kernel
theorem e_X2_walk_19 : decode cX2_walk 19 = .ok (.ireturn, 1) := by decide +kernel
theorem e_X2_walk_20 : decode cX2_walk 20 = .ok (.aload_n 0, 1) ∧ 20 + 1 = 21 := by decide +kernel
theorem e_X2_walk_21 : decode cX2_walk 21 = .ok (.getfield 23, 3) ∧ 21 + 3 = 24 := by decide +kernel
theorem e_X2_walk_24 : decode cX2_walk 24 = .ok (.iload_n 1, 1) ∧ 24 + 1 = 25 := by decide +kernel
theorem e_X2_walk_25 : decode cX2_walk 25 = .ok (.invokevirtual 134, 3) ∧ 25 + 3 = 28 := by decide +kernel
theorem e_X2_walk_28 : decode cX2_walk 28 = .ok (.ifCond .eq 24, 3) ∧ 28 + 3 = 31 ∧ ((28 : Nat) : Int) + (24) = ((52 : Nat) : Int) := by decide +kernel
theorem e_X2_walk_31 : decode cX2_walk 31 = .ok (.getstatic 149, 3) ∧ 31 + 3 = 34 := by decide +kernel
theorem e_X2_walk_34 : decode cX2_walk 34 = .ok (.aload_n 0, 1) ∧ 34 + 1 = 35 := by decide +kernel
theorem e_X2_walk_35 : decode cX2_walk 35 = .ok (.getfield 23, 3) ∧ 35 + 3 = 38 := by decide +kernel
theorem e_X2_walk_38 : decode cX2_walk 38 = .ok (.iload_n 1, 1) ∧ 38 + 1 = 39 := by decide +kernel
theorem e_X2_walk_39 : decode cX2_walk 39 = .ok (.invokevirtual 125, 3) ∧ 39 + 3 = 42 := by decide +kernel
theorem e_X2_walk_42 : decode cX2_walk 42 = .ok (.invokestatic 102, 3) ∧ 42 + 3 = 45 := by decide +kernel
theorem e_X2_walk_45 : decode cX2_walk 45 = .ok (.iload_n 2, 1) ∧ 45 + 1 = 46 := by decide +kernel
theorem e_X2_walk_46 : decode cX2_walk 46 = .ok (.invokestatic 152, 3) ∧ 46 + 3 = 49 := by decide +kernel
theorem e_X2_walk_49 : decode cX2_walk 49 = .ok (.ifCond .ne 6, 3) ∧ 49 + 3 = 52 ∧ ((49 : Nat) : Int) + (6) = ((55 : Nat) : Int) := by decide +kernel
theorem e_X2_walk_52 : decode cX2_walk 52 = .ok (.bipush (-3), 2) ∧ 52 + 2 = 54 := by decide +kernel
theorem e_X2_walk_54 : decode cX2_walk 54 = .ok (.ireturn, 1) := by decide +kernel
theorem e_X2_walk_55 : decode cX2_walk 55 = .ok (.aload_n 0, 1) ∧ 55 + 1 = 56 := by decide +kernel
theorem e_X2_walk_56 : decode cX2_walk 56 = .ok (.invokevirtual 137, 3) ∧ 56 + 3 = 59 := by decide +kernel
theorem e_X2_walk_59 : decode cX2_walk 59 = .ok (.aload_n 0, 1) ∧ 59 + 1 = 60 := by decide +kernel
theorem e_X2_walk_60 : decode cX2_walk 60 = .ok (.getfield 23, 3) ∧ 60 + 3 = 63 := by decide +kernel
theorem e_X2_walk_63 : decode cX2_walk 63 = .ok (.getfield 156, 3) ∧ 63 + 3 = 66 := by decide +kernel
theorem e_X2_walk_66 : decode cX2_walk 66 = .ok (.iload_n 1, 1) ∧ 66 + 1 = 67 := by decide +kernel
theorem e_X2_walk_67 : decode cX2_walk 67 = .ok (.iload_n 2, 1) ∧ 67 + 1 = 68 := by decide +kernel
theorem e_X2_walk_68 : decode cX2_walk 68 = .ok (.invokestatic 50, 3) ∧ 68 + 3 = 71 := by decide +kernel
theorem e_X2_walk_71 : decode cX2_walk 71 = .ok (.aload_n 0, 1) ∧ 71 + 1 = 72 := by decide +kernel
theorem e_X2_walk_72 : decode cX2_walk 72 = .ok (.getfield 23, 3) ∧ 72 + 3 = 75 := by decide +kernel
theorem e_X2_walk_75 : decode cX2_walk 75 = .ok (.iconst 1, 1) ∧ 75 + 1 = 76 := by decide +kernel
theorem e_X2_walk_76 : decode cX2_walk 76 = .ok (.iload_n 2, 1) ∧ 76 + 1 = 77 := by decide +kernel
theorem e_X2_walk_77 : decode cX2_walk 77 = .ok (.ishl, 1) ∧ 77 + 1 = 78 := by decide +kernel
theorem e_X2_walk_78 : decode cX2_walk 78 = .ok (.invokevirtual 118, 3) ∧ 78 + 3 = 81 := by decide +kernel
theorem e_X2_walk_81 : decode cX2_walk 81 = .ok (.aload_n 0, 1) ∧ 81 + 1 = 82 := by decide +kernel
theorem e_X2_walk_82 : decode cX2_walk 82 = .ok (.getfield 23, 3) ∧ 82 + 3 = 85 := by decide +kernel
theorem e_X2_walk_85 : decode cX2_walk 85 = .ok (.invokevirtual 159, 3) ∧ 85 + 3 = 88 := by decide +kernel
theorem e_X2_walk_88 : decode cX2_walk 88 = .ok (.iand, 1) ∧ 88 + 1 = 89 := by decide +kernel
theorem e_X2_walk_89 : decode cX2_walk 89 = .ok (.iconst 1, 1) ∧ 89 + 1 = 90 := by decide +kernel
theorem e_X2_walk_90 : decode cX2_walk 90 = .ok (.iload_n 1, 1) ∧ 90 + 1 = 91 := by decide +kernel
theorem e_X2_walk_91 : decode cX2_walk 91 = .ok (.ishl, 1) ∧ 91 + 1 = 92 := by decide +kernel
theorem e_X2_walk_92 : decode cX2_walk 92 = .ok (.iconst (-1), 1) ∧ 92 + 1 = 93 := by decide +kernel
theorem e_X2_walk_93 : decode cX2_walk 93 = .ok (.ixor, 1) ∧ 93 + 1 = 94 := by decide +kernel
theorem e_X2_walk_94 : decode cX2_walk 94 = .ok (.iand, 1) ∧ 94 + 1 = 95 := by decide +kernel
theorem e_X2_walk_95 : decode cX2_walk 95 = .ok (.ireturn, 1) := by decide +kernel
theorem e_X2_day_0 : decode cX2_day 0 = .ok (.aload_n 0, 1) ∧ 0 + 1 = 1 := by decide +kernel
theorem e_X2_day_1 : decode cX2_day 1 = .ok (.invokevirtual 137, 3) ∧ 1 + 3 = 4 := by decide +kernel
theorem e_X2_day_4 : decode cX2_day 4 = .ok (.aload_n 0, 1) ∧ 4 + 1 = 5 := by decide +kernel
theorem e_X2_day_5 : decode cX2_day 5 = .ok (.getfield 23, 3) ∧ 5 + 3 = 8 := by decide +kernel
theorem e_X2_day_8 : decode cX2_day 8 = .ok (.invokevirtual 162, 3) ∧ 8 + 3 = 11 := by decide +kernel
theorem e_X2_day_11 : decode cX2_day 11 = .ok (.ireturn, 1) := by decide +kernel
theorem e_X2_undo_0 : decode cX2_undo 0 = .ok (.aload_n 0, 1) ∧ 0 + 1 = 1 := by decide +kernel
theorem e_X2_undo_1 : decode cX2_undo 1 = .ok (.getfield 65, 3) ∧ 1 + 3 = 4 := by decide +kernel
theorem e_X2_undo_4 : decode cX2_undo 4 = .ok (.iconst 1, 1) ∧ 4 + 1 = 5 := by decide +kernel
theorem e_X2_undo_5 : decode cX2_undo 5 = .ok (.if_icmp .lt 15, 3) ∧ 5 + 3 = 8 ∧ ((5 : Nat) : Int) + (15) = ((20 : Nat) : Int) := by decide +kernel
theorem e_X2_undo_8 : decode cX2_undo 8 = .ok (.aload_n 0, 1) ∧ 8 + 1 = 9 := by decide +kernel
theorem e_X2_undo_9 : decode cX2_undo 9 = .ok (.getfield 65, 3) ∧ 9 + 3 = 12 := by decide +kernel
theorem e_X2_undo_12 : decode cX2_undo 12 = .ok (.aload_n 0, 1) ∧ 12 + 1 = 13 := by decide +kernel
theorem e_X2_undo_13 : decode cX2_undo 13 = .ok (.getfield 33, 3) ∧ 13 + 3 = 16 := by decide +kernel
theorem e_X2_undo_16 : decode cX2_undo 16 = .ok (.arraylength, 1) ∧ 16 + 1 = 17 := by decide +kernel
theorem e_X2_undo_17 : decode cX2_undo 17 = .ok (.if_icmp .le 6, 3) ∧ 17 + 3 = 20 ∧ ((17 : Nat) : Int) + (6) = ((23 : Nat) : Int) := by decide +kernel
theorem e_X2_undo_20 : decode cX2_undo 20 = .ok (.bipush (-3), 2) ∧ 20 + 2 = 22 := by decide +kernel
theorem e_X2_undo_22 : decode cX2_undo 22 = .ok (.ireturn, 1) := by decide +kernel
theorem e_X2_undo_23 : decode cX2_undo 23 = .ok (.aload_n 0, 1) ∧ 23 + 1 = 24 := by decide +kernel
theorem e_X2_undo_24 : decode cX2_undo 24 = .ok (.dup, 1) ∧ 24 + 1 = 25 := by decide +kernel
theorem e_X2_undo_25 : decode cX2_undo 25 = .ok (.getfield 65, 3) ∧ 25 + 3 = 28 := by decide +kernel
theorem e_X2_undo_28 : decode cX2_undo 28 = .ok (.iconst 1, 1) ∧ 28 + 1 = 29 := by decide +kernel
theorem e_X2_undo_29 : decode cX2_undo 29 = .ok (.isub, 1) ∧ 29 + 1 = 30 := by decide +kernel
theorem e_X2_undo_30 : decode cX2_undo 30 = .ok (.putfield 65, 3) ∧ 30 + 3 = 33 := by decide +kernel
theorem e_X2_undo_33 : decode cX2_undo 33 = .ok (.aload_n 0, 1) ∧ 33 + 1 = 34 := by decide +kernel
theorem e_X2_undo_34 : decode cX2_undo 34 = .ok (.getfield 23, 3) ∧ 34 + 3 = 37 := by decide +kernel
theorem e_X2_undo_37 : decode cX2_undo 37 = .ok (.aload_n 0, 1) ∧ 37 + 1 = 38 := by decide +kernel
theorem e_X2_undo_38 : decode cX2_undo 38 = .ok (.getfield 33, 3) ∧ 38 + 3 = 41 := by decide +kernel
theorem e_X2_undo_41 : decode cX2_undo 41 = .ok (.aload_n 0, 1) ∧ 41 + 1 = 42 := by decide +kernel
theorem e_X2_undo_42 : decode cX2_undo 42 = .ok (.getfield 65, 3) ∧ 42 + 3 = 45 := by decide +kernel
theorem e_X2_undo_45 : decode cX2_undo 45 = .ok (.aaload, 1) ∧ 45 + 1 = 46 := by decide +kernel
theorem e_X2_undo_46 : decode cX2_undo 46 = .ok (.invokevirtual 61, 3) ∧ 46 + 3 = 49 := by decide +kernel
theorem e_X2_undo_49 : decode cX2_undo 49 = .ok (.aload_n 0, 1) ∧ 49 + 1 = 50 := by decide +kernel
theorem e_X2_undo_50 : decode cX2_undo 50 = .ok (.getfield 65, 3) ∧ 50 + 3 = 53 := by decide +kernel
theorem e_X2_undo_53 : decode cX2_undo 53 = .ok (.ireturn, 1) := by decide +kernel
theorem e_X2_falls_0 : decode cX2_falls 0 = .ok (.aload_n 0, 1) ∧ 0 + 1 = 1 := by decide +kernel
theorem e_X2_falls_1 : decode cX2_falls 1 = .ok (.getfield 23, 3) ∧ 1 + 3 = 4 := by decide +kernel
theorem e_X2_falls_4 : decode cX2_falls 4 = .ok (.iload_n 1, 1) ∧ 4 + 1 = 5 := by decide +kernel
theorem e_X2_falls_5 : decode cX2_falls 5 = .ok (.invokevirtual 122, 3) ∧ 5 + 3 = 8 := by decide +kernel
theorem e_X2_falls_8 : decode cX2_falls 8 = .ok (.ifCond .ne 5, 3) ∧ 8 + 3 = 11 ∧ ((8 : Nat) : Int) + (5) = ((13 : Nat) : Int) := by decide +kernel
theorem e_X2_falls_11 : decode cX2_falls 11 = .ok (.iconst (-1), 1) ∧ 11 + 1 = 12 := by decide +kernel
theorem e_X2_falls_12 : decode cX2_falls 12 = .ok (.ireturn, 1) := by decide +kernel
theorem e_X2_falls_13 : decode cX2_falls 13 = .ok (.aload_n 0, 1) ∧ 13 + 1 = 14 := by decide +kernel
theorem e_X2_falls_14 : decode cX2_falls 14 = .ok (.getfield 23, 3) ∧ 14 + 3 = 17 := by decide +kernel
theorem e_X2_falls_17 : decode cX2_falls 17 = .ok (.iload_n 1, 1) ∧ 17 + 1 = 18 := by decide +kernel
theorem e_X2_falls_18 : decode cX2_falls 18 = .ok (.invokevirtual 134, 3) ∧ 18 + 3 = 21 := by decide +kernel
theorem e_X2_falls_21 : decode cX2_falls 21 = .ok (.ifCond .ne 6, 3) ∧ 21 + 3 = 24 ∧ ((21 : Nat) : Int) + (6) = ((27 : Nat) : Int) := by decide +kernel
theorem e_X2_falls_24 : decode cX2_falls 24 = .ok (.bipush (-3), 2) ∧ 24 + 2 = 26 := by decide +kernel
theorem e_X2_falls_26 : decode cX2_falls 26 = .ok (.ireturn, 1) := by decide +kernel
theorem e_X2_falls_27 : decode cX2_falls 27 = .ok (.aload_n 0, 1) ∧ 27 + 1 = 28 := by decide +kernel
theorem e_X2_falls_28 : decode cX2_falls 28 = .ok (.getfield 27, 3) ∧ 28 + 3 = 31 := by decide +kernel
theorem e_X2_falls_31 : decode cX2_falls 31 = .ok (.aload_n 0, 1) ∧ 31 + 1 = 32 := by decide +kernel
theorem e_X2_falls_32 : decode cX2_falls 32 = .ok (.getfield 23, 3) ∧ 32 + 3 = 35 := by decide +kernel
theorem e_X2_falls_35 : decode cX2_falls 35 = .ok (.invokevirtual 61, 3) ∧ 35 + 3 = 38 := by decide +kernel
theorem e_X2_falls_38 : decode cX2_falls 38 = .ok (.aload_n 0, 1) ∧ 38 + 1 = 39 := by decide +kernel
theorem e_X2_falls_39 : decode cX2_falls 39 = .ok (.getfield 27, 3) ∧ 39 + 3 = 42 := by decide +kernel
theorem e_X2_falls_42 : decode cX2_falls 42 = .ok (.iload_n 1, 1) ∧ 42 + 1 = 43 := by decide +kernel
theorem e_X2_falls_43 : decode cX2_falls 43 = .ok (.invokevirtual 140, 3) ∧ 43 + 3 = 46 := by decide +kernel
theorem e_X2_falls_46 : decode cX2_falls 46 = .ok (.ireturn, 1) := by decide +kernel
theorem e_X2_psalm_0 : decode cX2_psalm 0 = .ok (.iload_n 1, 1) ∧ 0 + 1 = 1 := by decide +kernel
theorem e_X2_psalm_1 : decode cX2_psalm 1 = .ok (.iconst 1, 1) ∧ 1 + 1 = 2 := by decide +kernel
theorem e_X2_psalm_2 : decode cX2_psalm 2 = .ok (.if_icmp .lt 13, 3) ∧ 2 + 3 = 5 ∧ ((2 : Nat) : Int) + (13) = ((15 : Nat) : Int) := by decide +kernel
theorem e_X2_psalm_5 : decode cX2_psalm 5 = .ok (.iload_n 1, 1) ∧ 5 + 1 = 6 := by decide +kernel
theorem e_X2_psalm_6 : decode cX2_psalm 6 = .ok (.bipush 8, 2) ∧ 6 + 2 = 8 := by decide +kernel
theorem e_X2_psalm_8 : decode cX2_psalm 8 = .ok (.if_icmp .gt 7, 3) ∧ 8 + 3 = 11 ∧ ((8 : Nat) : Int) + (7) = ((15 : Nat) : Int) := by decide +kernel
theorem e_X2_psalm_11 : decode cX2_psalm 11 = .ok (.iload_n 2, 1) ∧ 11 + 1 = 12 := by decide +kernel
theorem e_X2_psalm_12 : decode cX2_psalm 12 = .ok (.ifCond .ge 6, 3) ∧ 12 + 3 = 15 ∧ ((12 : Nat) : Int) + (6) = ((18 : Nat) : Int) := by decide +kernel
theorem e_X2_psalm_15 : decode cX2_psalm 15 = .ok (.bipush (-2), 2) ∧ 15 + 2 = 17 := by decide +kernel
theorem e_X2_psalm_17 : decode cX2_psalm 17 = .ok (.ireturn, 1) := by decide +kernel
theorem e_X2_psalm_18 : decode cX2_psalm 18 = .ok (.iload_n 2, 1) ∧ 18 + 1 = 19 := by decide +kernel
theorem e_X2_psalm_19 : decode cX2_psalm 19 = .ok (.istore_n 3, 1) ∧ 19 + 1 = 20 := by decide +kernel
theorem e_X2_psalm_20 : decode cX2_psalm 20 = .ok (.iload_n 1, 1) ∧ 20 + 1 = 21 := by decide +kernel
theorem e_X2_psalm_21 : decode cX2_psalm 21 = .ok (.iconst 1, 1) ∧ 21 + 1 = 22 := by decide +kernel
theorem e_X2_psalm_22 : decode cX2_psalm 22 = .ok (.isub, 1) ∧ 22 + 1 = 23 := by decide +kernel
theorem e_X2_psalm_23 : decode cX2_psalm 23 = .ok (.istore 4, 2) ∧ 23 + 2 = 25 := by decide +kernel
theorem e_X2_psalm_25 : decode cX2_psalm 25 = .ok (.iload 4, 2) ∧ 25 + 2 = 27 := by decide +kernel
theorem e_X2_psalm_27 : decode cX2_psalm 27 = .ok (.ifCond .lt 27, 3) ∧ 27 + 3 = 30 ∧ ((27 : Nat) : Int) + (27) = ((54 : Nat) : Int) := by decide +kernel
theorem e_X2_psalm_30 : decode cX2_psalm 30 = .ok (.aload_n 0, 1) ∧ 30 + 1 = 31 := by decide +kernel
theorem e_X2_psalm_31 : decode cX2_psalm 31 = .ok (.getfield 30, 3) ∧ 31 + 3 = 34 := by decide +kernel
theorem e_X2_psalm_34 : decode cX2_psalm 34 = .ok (.iload 4, 2) ∧ 34 + 2 = 36 := by decide +kernel
theorem e_X2_psalm_36 : decode cX2_psalm 36 = .ok (.iload_n 3, 1) ∧ 36 + 1 = 37 := by decide +kernel
theorem e_X2_psalm_37 : decode cX2_psalm 37 = .ok (.bipush 10, 2) ∧ 37 + 2 = 39 := by decide +kernel
theorem e_X2_psalm_39 : decode cX2_psalm 39 = .ok (.irem, 1) ∧ 39 + 1 = 40 := by decide +kernel
theorem e_X2_psalm_40 : decode cX2_psalm 40 = .ok (.invokestatic 50, 3) ∧ 40 + 3 = 43 := by decide +kernel
theorem e_X2_psalm_43 : decode cX2_psalm 43 = .ok (.iload_n 3, 1) ∧ 43 + 1 = 44 := by decide +kernel
theorem e_X2_psalm_44 : decode cX2_psalm 44 = .ok (.bipush 10, 2) ∧ 44 + 2 = 46 := by decide +kernel
theorem e_X2_psalm_46 : decode cX2_psalm 46 = .ok (.idiv, 1) ∧ 46 + 1 = 47 := by decide +kernel
theorem e_X2_psalm_47 : decode cX2_psalm 47 = .ok (.istore_n 3, 1) ∧ 47 + 1 = 48 := by decide +kernel
theorem e_X2_psalm_48 : decode cX2_psalm 48 = .ok (.iinc 4 (-1), 3) ∧ 48 + 3 = 51 := by decide +kernel
theorem e_X2_psalm_51 : decode cX2_psalm 51 = .ok (.goto (-26), 3) ∧ 51 + 3 = 54 ∧ ((51 : Nat) : Int) + (-26) = ((25 : Nat) : Int) := by decide +kernel
theorem e_X2_psalm_54 : decode cX2_psalm 54 = .ok (.iload_n 3, 1) ∧ 54 + 1 = 55 := by decide +kernel
theorem e_X2_psalm_55 : decode cX2_psalm 55 = .ok (.ifCond .eq 8, 3) ∧ 55 + 3 = 58 ∧ ((55 : Nat) : Int) + (8) = ((63 : Nat) : Int) := by decide +kernel
theorem e_X2_psalm_58 : decode cX2_psalm 58 = .ok (.bipush (-2), 2) ∧ 58 + 2 = 60 := by decide +kernel
theorem e_X2_psalm_60 : decode cX2_psalm 60 = .ok (.goto 8, 3) ∧ 60 + 3 = 63 ∧ ((60 : Nat) : Int) + (8) = ((68 : Nat) : Int) := by decide +kernel
theorem e_X2_psalm_63 : decode cX2_psalm 63 = .ok (.aload_n 0, 1) ∧ 63 + 1 = 64 := by decide +kernel
theorem e_X2_psalm_64 : decode cX2_psalm 64 = .ok (.iload_n 1, 1) ∧ 64 + 1 = 65 := by decide +kernel
theorem e_X2_psalm_65 : decode cX2_psalm 65 = .ok (.invokevirtual 165, 3) ∧ 65 + 3 = 68 := by decide +kernel
theorem e_X2_psalm_68 : decode cX2_psalm 68 = .ok (.ireturn, 1) := by decide +kernel
theorem e_X2_best_0 : decode cX2_best 0 = .ok (.iload_n 1, 1) ∧ 0 + 1 = 1 := by decide +kernel
theorem e_X2_best_1 : decode cX2_best 1 = .ok (.iconst 1, 1) ∧ 1 + 1 = 2 := by decide +kernel
theorem e_X2_best_2 : decode cX2_best 2 = .ok (.if_icmp .lt 8, 3) ∧ 2 + 3 = 5 ∧ ((2 : Nat) : Int) + (8) = ((10 : Nat) : Int) := by decide +kernel
theorem e_X2_best_5 : decode cX2_best 5 = .ok (.iload_n 1, 1) ∧ 5 + 1 = 6 := by decide +kernel
theorem e_X2_best_6 : decode cX2_best 6 = .ok (.iconst 3, 1) ∧ 6 + 1 = 7 := by decide +kernel
theorem e_X2_best_7 : decode cX2_best 7 = .ok (.if_icmp .le 6, 3) ∧ 7 + 3 = 10 ∧ ((7 : Nat) : Int) + (6) = ((13 : Nat) : Int) := by decide +kernel
theorem e_X2_best_10 : decode cX2_best 10 = .ok (.bipush (-2), 2) ∧ 10 + 2 = 12 := by decide +kernel
theorem e_X2_best_12 : decode cX2_best 12 = .ok (.ireturn, 1) := by decide +kernel
theorem e_X2_best_13 : decode cX2_best 13 = .ok (.aload_n 0, 1) ∧ 13 + 1 = 14 := by decide +kernel
theorem e_X2_best_14 : decode cX2_best 14 = .ok (.iload_n 1, 1) ∧ 14 + 1 = 15 := by decide +kernel
theorem e_X2_best_15 : decode cX2_best 15 = .ok (.invokevirtual 168, 3) ∧ 15 + 3 = 18 := by decide +kernel
theorem e_X2_best_18 : decode cX2_best 18 = .ok (.istore_n 2, 1) ∧ 18 + 1 = 19 := by decide +kernel
theorem e_X2_best_19 : decode cX2_best 19 = .ok (.iload_n 2, 1) ∧ 19 + 1 = 20 := by decide +kernel
theorem e_X2_best_20 : decode cX2_best 20 = .ok (.bipush (-9), 2) ∧ 20 + 2 = 22 := by decide +kernel
theorem e_X2_best_22 : decode cX2_best 22 = .ok (.if_icmp .ne 6, 3) ∧ 22 + 3 = 25 ∧ ((22 : Nat) : Int) + (6) = ((28 : Nat) : Int) := by decide +kernel
theorem e_X2_best_25 : decode cX2_best 25 = .ok (.bipush (-9), 2) ∧ 25 + 2 = 27 := by decide +kernel
theorem e_X2_best_27 : decode cX2_best 27 = .ok (.ireturn, 1) := by decide +kernel
theorem e_X2_best_28 : decode cX2_best 28 = .ok (.aload_n 0, 1) ∧ 28 + 1 = 29 := by decide +kernel
theorem e_X2_best_29 : decode cX2_best 29 = .ok (.iload_n 1, 1) ∧ 29 + 1 = 30 := by decide +kernel
theorem e_X2_best_30 : decode cX2_best 30 = .ok (.iload_n 2, 1) ∧ 30 + 1 = 31 := by decide +kernel
theorem e_X2_best_31 : decode cX2_best 31 = .ok (.invokevirtual 171, 3) ∧ 31 + 3 = 34 := by decide +kernel
theorem e_X2_best_34 : decode cX2_best 34 = .ok (.aload_n 0, 1) ∧ 34 + 1 = 35 := by decide +kernel
theorem e_X2_best_35 : decode cX2_best 35 = .ok (.iload_n 1, 1) ∧ 35 + 1 = 36 := by decide +kernel
theorem e_X2_best_36 : decode cX2_best 36 = .ok (.invokevirtual 165, 3) ∧ 36 + 3 = 39 := by decide +kernel
theorem e_X2_best_39 : decode cX2_best 39 = .ok (.pop, 1) ∧ 39 + 1 = 40 := by decide +kernel
theorem e_X2_best_40 : decode cX2_best 40 = .ok (.aload_n 0, 1) ∧ 40 + 1 = 41 := by decide +kernel
theorem e_X2_best_41 : decode cX2_best 41 = .ok (.getfield 27, 3) ∧ 41 + 3 = 44 := by decide +kernel
theorem e_X2_best_44 : decode cX2_best 44 = .ok (.getfield 80, 3) ∧ 44 + 3 = 47 := by decide +kernel
theorem e_X2_best_47 : decode cX2_best 47 = .ok (.aload_n 0, 1) ∧ 47 + 1 = 48 := by decide +kernel
theorem e_X2_best_48 : decode cX2_best 48 = .ok (.getfield 23, 3) ∧ 48 + 3 = 51 := by decide +kernel
theorem e_X2_best_51 : decode cX2_best 51 = .ok (.getfield 80, 3) ∧ 51 + 3 = 54 := by decide +kernel
theorem e_X2_best_54 : decode cX2_best 54 = .ok (.isub, 1) ∧ 54 + 1 = 55 := by decide +kernel
theorem e_X2_best_55 : decode cX2_best 55 = .ok (.ireturn, 1) := by decide +kernel
theorem e_X2_bestAt_0 : decode cX2_bestAt 0 = .ok (.iload_n 1, 1) ∧ 0 + 1 = 1 := by decide +kernel
theorem e_X2_bestAt_1 : decode cX2_bestAt 1 = .ok (.iconst 1, 1) ∧ 1 + 1 = 2 := by decide +kernel
theorem e_X2_bestAt_2 : decode cX2_bestAt 2 = .ok (.if_icmp .lt 8, 3) ∧ 2 + 3 = 5 ∧ ((2 : Nat) : Int) + (8) = ((10 : Nat) : Int) := by decide +kernel
theorem e_X2_bestAt_5 : decode cX2_bestAt 5 = .ok (.iload_n 1, 1) ∧ 5 + 1 = 6 := by decide +kernel
theorem e_X2_bestAt_6 : decode cX2_bestAt 6 = .ok (.iconst 3, 1) ∧ 6 + 1 = 7 := by decide +kernel
theorem e_X2_bestAt_7 : decode cX2_bestAt 7 = .ok (.if_icmp .le 6, 3) ∧ 7 + 3 = 10 ∧ ((7 : Nat) : Int) + (6) = ((13 : Nat) : Int) := by decide +kernel
theorem e_X2_bestAt_10 : decode cX2_bestAt 10 = .ok (.bipush (-2), 2) ∧ 10 + 2 = 12 := by decide +kernel
theorem e_X2_bestAt_12 : decode cX2_bestAt 12 = .ok (.ireturn, 1) := by decide +kernel
theorem e_X2_bestAt_13 : decode cX2_bestAt 13 = .ok (.iload_n 2, 1) ∧ 13 + 1 = 14 := by decide +kernel
theorem e_X2_bestAt_14 : decode cX2_bestAt 14 = .ok (.ifCond .lt 8, 3) ∧ 14 + 3 = 17 ∧ ((14 : Nat) : Int) + (8) = ((22 : Nat) : Int) := by decide +kernel
theorem e_X2_bestAt_17 : decode cX2_bestAt 17 = .ok (.iload_n 2, 1) ∧ 17 + 1 = 18 := by decide +kernel
theorem e_X2_bestAt_18 : decode cX2_bestAt 18 = .ok (.iload_n 1, 1) ∧ 18 + 1 = 19 := by decide +kernel
theorem e_X2_bestAt_19 : decode cX2_bestAt 19 = .ok (.if_icmp .lt 6, 3) ∧ 19 + 3 = 22 ∧ ((19 : Nat) : Int) + (6) = ((25 : Nat) : Int) := by decide +kernel
theorem e_X2_bestAt_22 : decode cX2_bestAt 22 = .ok (.bipush (-9), 2) ∧ 22 + 2 = 24 := by decide +kernel
theorem e_X2_bestAt_24 : decode cX2_bestAt 24 = .ok (.ireturn, 1) := by decide +kernel
theorem e_X2_bestAt_25 : decode cX2_bestAt 25 = .ok (.aload_n 0, 1) ∧ 25 + 1 = 26 := by decide +kernel
theorem e_X2_bestAt_26 : decode cX2_bestAt 26 = .ok (.iload_n 1, 1) ∧ 26 + 1 = 27 := by decide +kernel
theorem e_X2_bestAt_27 : decode cX2_bestAt 27 = .ok (.invokevirtual 168, 3) ∧ 27 + 3 = 30 := by decide +kernel
theorem e_X2_bestAt_30 : decode cX2_bestAt 30 = .ok (.istore_n 3, 1) ∧ 30 + 1 = 31 := by decide +kernel
theorem e_X2_bestAt_31 : decode cX2_bestAt 31 = .ok (.iload_n 3, 1) ∧ 31 + 1 = 32 := by decide +kernel
theorem e_X2_bestAt_32 : decode cX2_bestAt 32 = .ok (.bipush (-9), 2) ∧ 32 + 2 = 34 := by decide +kernel
theorem e_X2_bestAt_34 : decode cX2_bestAt 34 = .ok (.if_icmp .ne 8, 3) ∧ 34 + 3 = 37 ∧ ((34 : Nat) : Int) + (8) = ((42 : Nat) : Int) := by decide +kernel
theorem e_X2_bestAt_37 : decode cX2_bestAt 37 = .ok (.bipush (-9), 2) ∧ 37 + 2 = 39 := by decide +kernel
theorem e_X2_bestAt_39 : decode cX2_bestAt 39 = .ok (.goto 9, 3) ∧ 39 + 3 = 42 ∧ ((39 : Nat) : Int) + (9) = ((48 : Nat) : Int) := by decide +kernel
theorem e_X2_bestAt_42 : decode cX2_bestAt 42 = .ok (.iload_n 1, 1) ∧ 42 + 1 = 43 := by decide +kernel
theorem e_X2_bestAt_43 : decode cX2_bestAt 43 = .ok (.iload_n 3, 1) ∧ 43 + 1 = 44 := by decide +kernel
theorem e_X2_bestAt_44 : decode cX2_bestAt 44 = .ok (.iload_n 2, 1) ∧ 44 + 1 = 45 := by decide +kernel
theorem e_X2_bestAt_45 : decode cX2_bestAt 45 = .ok (.invokestatic 175, 3) ∧ 45 + 3 = 48 := by decide +kernel
theorem e_X2_bestAt_48 : decode cX2_bestAt 48 = .ok (.ireturn, 1) := by decide +kernel
theorem e_X2_oaths_0 : decode cX2_oaths 0 = .ok (.aload_n 0, 1) ∧ 0 + 1 = 1 := by decide +kernel
theorem e_X2_oaths_1 : decode cX2_oaths 1 = .ok (.getfield 23, 3) ∧ 1 + 3 = 4 := by decide +kernel
theorem e_X2_oaths_4 : decode cX2_oaths 4 = .ok (.invokevirtual 159, 3) ∧ 4 + 3 = 7 := by decide +kernel
theorem e_X2_oaths_7 : decode cX2_oaths 7 = .ok (.istore_n 1, 1) ∧ 7 + 1 = 8 := by decide +kernel
theorem e_X2_oaths_8 : decode cX2_oaths 8 = .ok (.iload_n 1, 1) ∧ 8 + 1 = 9 := by decide +kernel
theorem e_X2_oaths_9 : decode cX2_oaths 9 = .ok (.ifCond .ne 5, 3) ∧ 9 + 3 = 12 ∧ ((9 : Nat) : Int) + (5) = ((14 : Nat) : Int) := by decide +kernel
theorem e_X2_oaths_12 : decode cX2_oaths 12 = .ok (.iconst 0, 1) ∧ 12 + 1 = 13 := by decide +kernel
theorem e_X2_oaths_13 : decode cX2_oaths 13 = .ok (.ireturn, 1) := by decide +kernel
theorem e_X2_oaths_14 : decode cX2_oaths 14 = .ok (.aload_n 0, 1) ∧ 14 + 1 = 15 := by decide +kernel
theorem e_X2_oaths_15 : decode cX2_oaths 15 = .ok (.getfield 27, 3) ∧ 15 + 3 = 18 := by decide +kernel
theorem e_X2_oaths_18 : decode cX2_oaths 18 = .ok (.aload_n 0, 1) ∧ 18 + 1 = 19 := by decide +kernel
theorem e_X2_oaths_19 : decode cX2_oaths 19 = .ok (.getfield 23, 3) ∧ 19 + 3 = 22 := by decide +kernel
theorem e_X2_oaths_22 : decode cX2_oaths 22 = .ok (.invokevirtual 61, 3) ∧ 22 + 3 = 25 := by decide +kernel
theorem e_X2_oaths_25 : decode cX2_oaths 25 = .ok (.iconst 0, 1) ∧ 25 + 1 = 26 := by decide +kernel
theorem e_X2_oaths_26 : decode cX2_oaths 26 = .ok (.istore_n 2, 1) ∧ 26 + 1 = 27 := by decide +kernel
theorem e_X2_oaths_27 : decode cX2_oaths 27 = .ok (.iload_n 2, 1) ∧ 27 + 1 = 28 := by decide +kernel
theorem e_X2_oaths_28 : decode cX2_oaths 28 = .ok (.iconst 4, 1) ∧ 28 + 1 = 29 := by decide +kernel
theorem e_X2_oaths_29 : decode cX2_oaths 29 = .ok (.if_icmp .ge 25, 3) ∧ 29 + 3 = 32 ∧ ((29 : Nat) : Int) + (25) = ((54 : Nat) : Int) := by decide +kernel
theorem e_X2_oaths_32 : decode cX2_oaths 32 = .ok (.iload_n 1, 1) ∧ 32 + 1 = 33 := by decide +kernel
theorem e_X2_oaths_33 : decode cX2_oaths 33 = .ok (.iload_n 2, 1) ∧ 33 + 1 = 34 := by decide +kernel
theorem e_X2_oaths_34 : decode cX2_oaths 34 = .ok (.invokestatic 152, 3) ∧ 34 + 3 = 37 := by decide +kernel
theorem e_X2_oaths_37 : decode cX2_oaths 37 = .ok (.ifCond .eq 11, 3) ∧ 37 + 3 = 40 ∧ ((37 : Nat) : Int) + (11) = ((48 : Nat) : Int) := by decide +kernel
theorem e_X2_oaths_40 : decode cX2_oaths 40 = .ok (.aload_n 0, 1) ∧ 40 + 1 = 41 := by decide +kernel
theorem e_X2_oaths_41 : decode cX2_oaths 41 = .ok (.getfield 27, 3) ∧ 41 + 3 = 44 := by decide +kernel
theorem e_X2_oaths_44 : decode cX2_oaths 44 = .ok (.iload_n 2, 1) ∧ 44 + 1 = 45 := by decide +kernel
theorem e_X2_oaths_45 : decode cX2_oaths 45 = .ok (.invokevirtual 179, 3) ∧ 45 + 3 = 48 := by decide +kernel
theorem e_X2_oaths_48 : decode cX2_oaths 48 = .ok (.iinc 2 1, 3) ∧ 48 + 3 = 51 := by decide +kernel
theorem e_X2_oaths_51 : decode cX2_oaths 51 = .ok (.goto (-24), 3) ∧ 51 + 3 = 54 ∧ ((51 : Nat) : Int) + (-24) = ((27 : Nat) : Int) := by decide +kernel
theorem e_X2_oaths_54 : decode cX2_oaths 54 = .ok (.aload_n 0, 1) ∧ 54 + 1 = 55 := by decide +kernel
theorem e_X2_oaths_55 : decode cX2_oaths 55 = .ok (.getfield 27, 3) ∧ 55 + 3 = 58 := by decide +kernel
theorem e_X2_oaths_58 : decode cX2_oaths 58 = .ok (.invokevirtual 183, 3) ∧ 58 + 3 = 61 := by decide +kernel
theorem e_X2_oaths_61 : decode cX2_oaths 61 = .ok (.ireturn, 1) := by decide +kernel
theorem e_X2_down_0 : decode cX2_down 0 = .ok (.iload_n 1, 1) ∧ 0 + 1 = 1 := by decide +kernel
theorem e_X2_down_1 : decode cX2_down 1 = .ok (.invokestatic 95, 3) ∧ 1 + 3 = 4 := by decide +kernel
theorem e_X2_down_4 : decode cX2_down 4 = .ok (.ifCond .ne 5, 3) ∧ 4 + 3 = 7 ∧ ((4 : Nat) : Int) + (5) = ((9 : Nat) : Int) := by decide +kernel
theorem e_X2_down_7 : decode cX2_down 7 = .ok (.iconst (-1), 1) ∧ 7 + 1 = 8 := by decide +kernel
theorem e_X2_down_8 : decode cX2_down 8 = .ok (.ireturn, 1) := by decide +kernel
theorem e_X2_down_9 : decode cX2_down 9 = .ok (.aload_n 0, 1) ∧ 9 + 1 = 10 := by decide +kernel
theorem e_X2_down_10 : decode cX2_down 10 = .ok (.getfield 27, 3) ∧ 10 + 3 = 13 := by decide +kernel
theorem e_X2_down_13 : decode cX2_down 13 = .ok (.aload_n 0, 1) ∧ 13 + 1 = 14 := by decide +kernel
theorem e_X2_down_14 : decode cX2_down 14 = .ok (.getfield 23, 3) ∧ 14 + 3 = 17 := by decide +kernel
theorem e_X2_down_17 : decode cX2_down 17 = .ok (.invokevirtual 61, 3) ∧ 17 + 3 = 20 := by decide +kernel
theorem e_X2_down_20 : decode cX2_down 20 = .ok (.iconst 0, 1) ∧ 20 + 1 = 21 := by decide +kernel
theorem e_X2_down_21 : decode cX2_down 21 = .ok (.istore_n 2, 1) ∧ 21 + 1 = 22 := by decide +kernel
theorem e_X2_down_22 : decode cX2_down 22 = .ok (.iload_n 2, 1) ∧ 22 + 1 = 23 := by decide +kernel
theorem e_X2_down_23 : decode cX2_down 23 = .ok (.bipush 30, 2) ∧ 23 + 2 = 25 := by decide +kernel
theorem e_X2_down_25 : decode cX2_down 25 = .ok (.if_icmp .gt 39, 3) ∧ 25 + 3 = 28 ∧ ((25 : Nat) : Int) + (39) = ((64 : Nat) : Int) := by decide +kernel
theorem e_X2_down_28 : decode cX2_down 28 = .ok (.aload_n 0, 1) ∧ 28 + 1 = 29 := by decide +kernel
theorem e_X2_down_29 : decode cX2_down 29 = .ok (.getfield 27, 3) ∧ 29 + 3 = 32 := by decide +kernel
theorem e_X2_down_32 : decode cX2_down 32 = .ok (.iload_n 1, 1) ∧ 32 + 1 = 33 := by decide +kernel
theorem e_X2_down_33 : decode cX2_down 33 = .ok (.invokevirtual 115, 3) ∧ 33 + 3 = 36 := by decide +kernel
theorem e_X2_down_36 : decode cX2_down 36 = .ok (.ifCond .eq 5, 3) ∧ 36 + 3 = 39 ∧ ((36 : Nat) : Int) + (5) = ((41 : Nat) : Int) := by decide +kernel
theorem e_X2_down_39 : decode cX2_down 39 = .ok (.iload_n 2, 1) ∧ 39 + 1 = 40 := by decide +kernel
theorem e_X2_down_40 : decode cX2_down 40 = .ok (.ireturn, 1) := by decide +kernel
theorem e_X2_down_41 : decode cX2_down 41 = .ok (.aload_n 0, 1) ∧ 41 + 1 = 42 := by decide +kernel
theorem e_X2_down_42 : decode cX2_down 42 = .ok (.getfield 27, 3) ∧ 42 + 3 = 45 := by decide +kernel
theorem e_X2_down_45 : decode cX2_down 45 = .ok (.bipush 15, 2) ∧ 45 + 2 = 47 := by decide +kernel
theorem e_X2_down_47 : decode cX2_down 47 = .ok (.invokevirtual 186, 3) ∧ 47 + 3 = 50 := by decide +kernel
theorem e_X2_down_50 : decode cX2_down 50 = .ok (.aload_n 0, 1) ∧ 50 + 1 = 51 := by decide +kernel
theorem e_X2_down_51 : decode cX2_down 51 = .ok (.getfield 27, 3) ∧ 51 + 3 = 54 := by decide +kernel
theorem e_X2_down_54 : decode cX2_down 54 = .ok (.invokevirtual 162, 3) ∧ 54 + 3 = 57 := by decide +kernel
theorem e_X2_down_57 : decode cX2_down 57 = .ok (.pop, 1) ∧ 57 + 1 = 58 := by decide +kernel
theorem e_X2_down_58 : decode cX2_down 58 = .ok (.iinc 2 1, 3) ∧ 58 + 3 = 61 := by decide +kernel
theorem e_X2_down_61 : decode cX2_down 61 = .ok (.goto (-39), 3) ∧ 61 + 3 = 64 ∧ ((61 : Nat) : Int) + (-39) = ((22 : Nat) : Int) := by decide +kernel
theorem e_X2_down_64 : decode cX2_down 64 = .ok (.bipush (-9), 2) ∧ 64 + 2 = 66 := by decide +kernel
theorem e_X2_down_66 : decode cX2_down 66 = .ok (.ireturn, 1) := by decide +kernel
theorem e_X2_see_0 : decode cX2_see 0 = .ok (.iload_n 1, 1) ∧ 0 + 1 = 1 := by decide +kernel
theorem e_X2_see_1 : decode cX2_see 1 = .ok (.invokestatic 95, 3) ∧ 1 + 3 = 4 := by decide +kernel
theorem e_X2_see_4 : decode cX2_see 4 = .ok (.ifCond .ne 5, 3) ∧ 4 + 3 = 7 ∧ ((4 : Nat) : Int) + (5) = ((9 : Nat) : Int) := by decide +kernel
theorem e_X2_see_7 : decode cX2_see 7 = .ok (.iconst (-1), 1) ∧ 7 + 1 = 8 := by decide +kernel
theorem e_X2_see_8 : decode cX2_see 8 = .ok (.ireturn, 1) := by decide +kernel
theorem e_X2_see_9 : decode cX2_see 9 = .ok (.iload_n 2, 1) ∧ 9 + 1 = 10 := by decide +kernel
theorem e_X2_see_10 : decode cX2_see 10 = .ok (.ifCond .lt 9, 3) ∧ 10 + 3 = 13 ∧ ((10 : Nat) : Int) + (9) = ((19 : Nat) : Int) := by decide +kernel
theorem e_X2_see_13 : decode cX2_see 13 = .ok (.iload_n 2, 1) ∧ 13 + 1 = 14 := by decide +kernel
theorem e_X2_see_14 : decode cX2_see 14 = .ok (.bipush 100, 2) ∧ 14 + 2 = 16 := by decide +kernel
theorem e_X2_see_16 : decode cX2_see 16 = .ok (.if_icmp .le 6, 3) ∧ 16 + 3 = 19 ∧ ((16 : Nat) : Int) + (6) = ((22 : Nat) : Int) := by decide +kernel
theorem e_X2_see_19 : decode cX2_see 19 = .ok (.bipush (-2), 2) ∧ 19 + 2 = 21 := by decide +kernel
theorem e_X2_see_21 : decode cX2_see 21 = .ok (.ireturn, 1) := by decide +kernel
theorem e_X2_see_22 : decode cX2_see 22 = .ok (.aload_n 0, 1) ∧ 22 + 1 = 23 := by decide +kernel
theorem e_X2_see_23 : decode cX2_see 23 = .ok (.getfield 92, 3) ∧ 23 + 3 = 26 := by decide +kernel
theorem e_X2_see_26 : decode cX2_see 26 = .ok (.bipush 6, 2) ∧ 26 + 2 = 28 := by decide +kernel
theorem e_X2_see_28 : decode cX2_see 28 = .ok (.if_icmp .lt 6, 3) ∧ 28 + 3 = 31 ∧ ((28 : Nat) : Int) + (6) = ((34 : Nat) : Int) := by decide +kernel
theorem e_X2_see_31 : decode cX2_see 31 = .ok (.bipush (-4), 2) ∧ 31 + 2 = 33 := by decide +kernel
theorem e_X2_see_33 : decode cX2_see 33 = .ok (.ireturn, 1) := by decide +kernel
theorem e_X2_see_34 : decode cX2_see 34 = .ok (.aload_n 0, 1) ∧ 34 + 1 = 35 := by decide +kernel
theorem e_X2_see_35 : decode cX2_see 35 = .ok (.getfield 40, 3) ∧ 35 + 3 = 38 := by decide +kernel
theorem e_X2_see_38 : decode cX2_see 38 = .ok (.aload_n 0, 1) ∧ 38 + 1 = 39 := by decide +kernel
theorem e_X2_see_39 : decode cX2_see 39 = .ok (.getfield 92, 3) ∧ 39 + 3 = 42 := by decide +kernel
theorem e_X2_see_42 : decode cX2_see 42 = .ok (.iload_n 1, 1) ∧ 42 + 1 = 43 := by decide +kernel
theorem e_X2_see_43 : decode cX2_see 43 = .ok (.invokestatic 50, 3) ∧ 43 + 3 = 46 := by decide +kernel
theorem e_X2_see_46 : decode cX2_see 46 = .ok (.aload_n 0, 1) ∧ 46 + 1 = 47 := by decide +kernel
theorem e_X2_see_47 : decode cX2_see 47 = .ok (.getfield 43, 3) ∧ 47 + 3 = 50 := by decide +kernel
theorem e_X2_see_50 : decode cX2_see 50 = .ok (.aload_n 0, 1) ∧ 50 + 1 = 51 := by decide +kernel
theorem e_X2_see_51 : decode cX2_see 51 = .ok (.getfield 92, 3) ∧ 51 + 3 = 54 := by decide +kernel
theorem e_X2_see_54 : decode cX2_see 54 = .ok (.iload_n 2, 1) ∧ 54 + 1 = 55 := by decide +kernel
theorem e_X2_see_55 : decode cX2_see 55 = .ok (.invokestatic 50, 3) ∧ 55 + 3 = 58 := by decide +kernel
theorem e_X2_see_58 : decode cX2_see 58 = .ok (.aload_n 0, 1) ∧ 58 + 1 = 59 := by decide +kernel
theorem e_X2_see_59 : decode cX2_see 59 = .ok (.dup, 1) ∧ 59 + 1 = 60 := by decide +kernel
theorem e_X2_see_60 : decode cX2_see 60 = .ok (.getfield 92, 3) ∧ 60 + 3 = 63 := by decide +kernel
theorem e_X2_see_63 : decode cX2_see 63 = .ok (.iconst 1, 1) ∧ 63 + 1 = 64 := by decide +kernel
theorem e_X2_see_64 : decode cX2_see 64 = .ok (.iadd, 1) ∧ 64 + 1 = 65 := by decide +kernel
theorem e_X2_see_65 : decode cX2_see 65 = .ok (.putfield 92, 3) ∧ 65 + 3 = 68 := by decide +kernel
theorem e_X2_see_68 : decode cX2_see 68 = .ok (.aload_n 0, 1) ∧ 68 + 1 = 69 := by decide +kernel
theorem e_X2_see_69 : decode cX2_see 69 = .ok (.getfield 92, 3) ∧ 69 + 3 = 72 := by decide +kernel
theorem e_X2_see_72 : decode cX2_see 72 = .ok (.ireturn, 1) := by decide +kernel
theorem e_X2_unsee_0 : decode cX2_unsee 0 = .ok (.aload_n 0, 1) ∧ 0 + 1 = 1 := by decide +kernel
theorem e_X2_unsee_1 : decode cX2_unsee 1 = .ok (.getfield 92, 3) ∧ 1 + 3 = 4 := by decide +kernel
theorem e_X2_unsee_4 : decode cX2_unsee 4 = .ok (.istore_n 1, 1) ∧ 4 + 1 = 5 := by decide +kernel
theorem e_X2_unsee_5 : decode cX2_unsee 5 = .ok (.aload_n 0, 1) ∧ 5 + 1 = 6 := by decide +kernel
theorem e_X2_unsee_6 : decode cX2_unsee 6 = .ok (.iconst 0, 1) ∧ 6 + 1 = 7 := by decide +kernel
theorem e_X2_unsee_7 : decode cX2_unsee 7 = .ok (.putfield 92, 3) ∧ 7 + 3 = 10 := by decide +kernel
theorem e_X2_unsee_10 : decode cX2_unsee 10 = .ok (.iload_n 1, 1) ∧ 10 + 1 = 11 := by decide +kernel
theorem e_X2_unsee_11 : decode cX2_unsee 11 = .ok (.ireturn, 1) := by decide +kernel
theorem e_X2_silent_0 : decode cX2_silent 0 = .ok (.iload_n 1, 1) ∧ 0 + 1 = 1 := by decide +kernel
theorem e_X2_silent_1 : decode cX2_silent 1 = .ok (.ifCond .eq 11, 3) ∧ 1 + 3 = 4 ∧ ((1 : Nat) : Int) + (11) = ((12 : Nat) : Int) := by decide +kernel
theorem e_X2_silent_4 : decode cX2_silent 4 = .ok (.iload_n 1, 1) ∧ 4 + 1 = 5 := by decide +kernel
theorem e_X2_silent_5 : decode cX2_silent 5 = .ok (.iconst 1, 1) ∧ 5 + 1 = 6 := by decide +kernel
theorem e_X2_silent_6 : decode cX2_silent 6 = .ok (.if_icmp .eq 6, 3) ∧ 6 + 3 = 9 ∧ ((6 : Nat) : Int) + (6) = ((12 : Nat) : Int) := by decide +kernel
theorem e_X2_silent_9 : decode cX2_silent 9 = .ok (.bipush (-2), 2) ∧ 9 + 2 = 11 := by decide +kernel
theorem e_X2_silent_11 : decode cX2_silent 11 = .ok (.ireturn, 1) := by decide +kernel
theorem e_X2_silent_12 : decode cX2_silent 12 = .ok (.aload_n 0, 1) ∧ 12 + 1 = 13 := by decide +kernel
theorem e_X2_silent_13 : decode cX2_silent 13 = .ok (.getfield 23, 3) ∧ 13 + 3 = 16 := by decide +kernel
theorem e_X2_silent_16 : decode cX2_silent 16 = .ok (.invokevirtual 159, 3) ∧ 16 + 3 = 19 := by decide +kernel
theorem e_X2_silent_19 : decode cX2_silent 19 = .ok (.istore_n 2, 1) ∧ 19 + 1 = 20 := by decide +kernel
theorem e_X2_silent_20 : decode cX2_silent 20 = .ok (.iconst 0, 1) ∧ 20 + 1 = 21 := by decide +kernel
theorem e_X2_silent_21 : decode cX2_silent 21 = .ok (.istore_n 3, 1) ∧ 21 + 1 = 22 := by decide +kernel
theorem e_X2_silent_22 : decode cX2_silent 22 = .ok (.iload_n 2, 1) ∧ 22 + 1 = 23 := by decide +kernel
theorem e_X2_silent_23 : decode cX2_silent 23 = .ok (.istore 4, 2) ∧ 23 + 2 = 25 := by decide +kernel
theorem e_X2_silent_25 : decode cX2_silent 25 = .ok (.iconst 0, 1) ∧ 25 + 1 = 26 := by decide +kernel
theorem e_X2_silent_26 : decode cX2_silent 26 = .ok (.istore 5, 2) ∧ 26 + 2 = 28 := by decide +kernel
theorem e_X2_silent_28 : decode cX2_silent 28 = .ok (.iload 5, 2) ∧ 28 + 2 = 30 := by decide +kernel
theorem e_X2_silent_30 : decode cX2_silent 30 = .ok (.bipush 16, 2) ∧ 30 + 2 = 32 := by decide +kernel
theorem e_X2_silent_32 : decode cX2_silent 32 = .ok (.if_icmp .ge 37, 3) ∧ 32 + 3 = 35 ∧ ((32 : Nat) : Int) + (37) = ((69 : Nat) : Int) := by decide +kernel
theorem e_X2_silent_35 : decode cX2_silent 35 = .ok (.iload 5, 2) ∧ 35 + 2 = 37 := by decide +kernel
theorem e_X2_silent_37 : decode cX2_silent 37 = .ok (.iload_n 2, 1) ∧ 37 + 1 = 38 := by decide +kernel
theorem e_X2_silent_38 : decode cX2_silent 38 = .ok (.iconst (-1), 1) ∧ 38 + 1 = 39 := by decide +kernel
theorem e_X2_silent_39 : decode cX2_silent 39 = .ok (.ixor, 1) ∧ 39 + 1 = 40 := by decide +kernel
theorem e_X2_silent_40 : decode cX2_silent 40 = .ok (.iand, 1) ∧ 40 + 1 = 41 := by decide +kernel
theorem e_X2_silent_41 : decode cX2_silent 41 = .ok (.ifCond .ne 22, 3) ∧ 41 + 3 = 44 ∧ ((41 : Nat) : Int) + (22) = ((63 : Nat) : Int) := by decide +kernel
theorem e_X2_silent_44 : decode cX2_silent 44 = .ok (.aload_n 0, 1) ∧ 44 + 1 = 45 := by decide +kernel
theorem e_X2_silent_45 : decode cX2_silent 45 = .ok (.iload 5, 2) ∧ 45 + 2 = 47 := by decide +kernel
theorem e_X2_silent_47 : decode cX2_silent 47 = .ok (.invokevirtual 189, 3) ∧ 47 + 3 = 50 := by decide +kernel
theorem e_X2_silent_50 : decode cX2_silent 50 = .ok (.ifCond .eq 13, 3) ∧ 50 + 3 = 53 ∧ ((50 : Nat) : Int) + (13) = ((63 : Nat) : Int) := by decide +kernel
theorem e_X2_silent_53 : decode cX2_silent 53 = .ok (.iinc 3 1, 3) ∧ 53 + 3 = 56 := by decide +kernel
theorem e_X2_silent_56 : decode cX2_silent 56 = .ok (.iload 4, 2) ∧ 56 + 2 = 58 := by decide +kernel
theorem e_X2_silent_58 : decode cX2_silent 58 = .ok (.iload 5, 2) ∧ 58 + 2 = 60 := by decide +kernel
theorem e_X2_silent_60 : decode cX2_silent 60 = .ok (.iand, 1) ∧ 60 + 1 = 61 := by decide +kernel
theorem e_X2_silent_61 : decode cX2_silent 61 = .ok (.istore 4, 2) ∧ 61 + 2 = 63 := by decide +kernel
theorem e_X2_silent_63 : decode cX2_silent 63 = .ok (.iinc 5 1, 3) ∧ 63 + 3 = 66 := by decide +kernel
theorem e_X2_silent_66 : decode cX2_silent 66 = .ok (.goto (-38), 3) ∧ 66 + 3 = 69 ∧ ((66 : Nat) : Int) + (-38) = ((28 : Nat) : Int) := by decide +kernel
theorem e_X2_silent_69 : decode cX2_silent 69 = .ok (.iload_n 1, 1) ∧ 69 + 1 = 70 := by decide +kernel
theorem e_X2_silent_70 : decode cX2_silent 70 = .ok (.ifCond .ne 5, 3) ∧ 70 + 3 = 73 ∧ ((70 : Nat) : Int) + (5) = ((75 : Nat) : Int) := by decide +kernel
theorem e_X2_silent_73 : decode cX2_silent 73 = .ok (.iload_n 3, 1) ∧ 73 + 1 = 74 := by decide +kernel
theorem e_X2_silent_74 : decode cX2_silent 74 = .ok (.ireturn, 1) := by decide +kernel
theorem e_X2_silent_75 : decode cX2_silent 75 = .ok (.iload_n 3, 1) ∧ 75 + 1 = 76 := by decide +kernel
theorem e_X2_silent_76 : decode cX2_silent 76 = .ok (.ifCond .ne 8, 3) ∧ 76 + 3 = 79 ∧ ((76 : Nat) : Int) + (8) = ((84 : Nat) : Int) := by decide +kernel
theorem e_X2_silent_79 : decode cX2_silent 79 = .ok (.bipush (-9), 2) ∧ 79 + 2 = 81 := by decide +kernel
theorem e_X2_silent_81 : decode cX2_silent 81 = .ok (.goto 5, 3) ∧ 81 + 3 = 84 ∧ ((81 : Nat) : Int) + (5) = ((86 : Nat) : Int) := by decide +kernel
theorem e_X2_silent_84 : decode cX2_silent 84 = .ok (.iload 4, 2) ∧ 84 + 2 = 86 := by decide +kernel
theorem e_X2_silent_86 : decode cX2_silent 86 = .ok (.ireturn, 1) := by decide +kernel
theorem e_X2_chance_0 : decode cX2_chance 0 = .ok (.iload_n 1, 1) ∧ 0 + 1 = 1 := by decide +kernel
theorem e_X2_chance_1 : decode cX2_chance 1 = .ok (.invokestatic 95, 3) ∧ 1 + 3 = 4 := by decide +kernel
theorem e_X2_chance_4 : decode cX2_chance 4 = .ok (.ifCond .ne 5, 3) ∧ 4 + 3 = 7 ∧ ((4 : Nat) : Int) + (5) = ((9 : Nat) : Int) := by decide +kernel
theorem e_X2_chance_7 : decode cX2_chance 7 = .ok (.iconst (-1), 1) ∧ 7 + 1 = 8 := by decide +kernel
theorem e_X2_chance_8 : decode cX2_chance 8 = .ok (.ireturn, 1) := by decide +kernel
theorem e_X2_chance_9 : decode cX2_chance 9 = .ok (.iload_n 2, 1) ∧ 9 + 1 = 10 := by decide +kernel
theorem e_X2_chance_10 : decode cX2_chance 10 = .ok (.ifCond .lt 9, 3) ∧ 10 + 3 = 13 ∧ ((10 : Nat) : Int) + (9) = ((19 : Nat) : Int) := by decide +kernel
theorem e_X2_chance_13 : decode cX2_chance 13 = .ok (.iload_n 2, 1) ∧ 13 + 1 = 14 := by decide +kernel
theorem e_X2_chance_14 : decode cX2_chance 14 = .ok (.bipush 10, 2) ∧ 14 + 2 = 16 := by decide +kernel
theorem e_X2_chance_16 : decode cX2_chance 16 = .ok (.if_icmp .le 6, 3) ∧ 16 + 3 = 19 ∧ ((16 : Nat) : Int) + (6) = ((22 : Nat) : Int) := by decide +kernel
theorem e_X2_chance_19 : decode cX2_chance 19 = .ok (.bipush (-2), 2) ∧ 19 + 2 = 21 := by decide +kernel
theorem e_X2_chance_21 : decode cX2_chance 21 = .ok (.ireturn, 1) := by decide +kernel
theorem e_X2_chance_22 : decode cX2_chance 22 = .ok (.aload_n 0, 1) ∧ 22 + 1 = 23 := by decide +kernel
theorem e_X2_chance_23 : decode cX2_chance 23 = .ok (.getfield 23, 3) ∧ 23 + 3 = 26 := by decide +kernel
theorem e_X2_chance_26 : decode cX2_chance 26 = .ok (.invokevirtual 159, 3) ∧ 26 + 3 = 29 := by decide +kernel
theorem e_X2_chance_29 : decode cX2_chance 29 = .ok (.istore 4, 2) ∧ 29 + 2 = 31 := by decide +kernel
theorem e_X2_chance_31 : decode cX2_chance 31 = .ok (.iconst 0, 1) ∧ 31 + 1 = 32 := by decide +kernel
theorem e_X2_chance_32 : decode cX2_chance 32 = .ok (.istore 5, 2) ∧ 32 + 2 = 34 := by decide +kernel
theorem e_X2_chance_34 : decode cX2_chance 34 = .ok (.iconst 0, 1) ∧ 34 + 1 = 35 := by decide +kernel
theorem e_X2_chance_35 : decode cX2_chance 35 = .ok (.istore 6, 2) ∧ 35 + 2 = 37 := by decide +kernel
theorem e_X2_chance_37 : decode cX2_chance 37 = .ok (.iconst 0, 1) ∧ 37 + 1 = 38 := by decide +kernel
theorem e_X2_chance_38 : decode cX2_chance 38 = .ok (.istore 7, 2) ∧ 38 + 2 = 40 := by decide +kernel
theorem e_X2_chance_40 : decode cX2_chance 40 = .ok (.iload 7, 2) ∧ 40 + 2 = 42 := by decide +kernel
theorem e_X2_chance_42 : decode cX2_chance 42 = .ok (.bipush 16, 2) ∧ 42 + 2 = 44 := by decide +kernel
theorem e_X2_chance_44 : decode cX2_chance 44 = .ok (.if_icmp .ge 78, 3) ∧ 44 + 3 = 47 ∧ ((44 : Nat) : Int) + (78) = ((122 : Nat) : Int) := by decide +kernel
theorem e_X2_chance_47 : decode cX2_chance 47 = .ok (.iload 7, 2) ∧ 47 + 2 = 49 := by decide +kernel
theorem e_X2_chance_49 : decode cX2_chance 49 = .ok (.iload 4, 2) ∧ 49 + 2 = 51 := by decide +kernel
theorem e_X2_chance_51 : decode cX2_chance 51 = .ok (.iconst (-1), 1) ∧ 51 + 1 = 52 := by decide +kernel
theorem e_X2_chance_52 : decode cX2_chance 52 = .ok (.ixor, 1) ∧ 52 + 1 = 53 := by decide +kernel
theorem e_X2_chance_53 : decode cX2_chance 53 = .ok (.iand, 1) ∧ 53 + 1 = 54 := by decide +kernel
theorem e_X2_chance_54 : decode cX2_chance 54 = .ok (.ifCond .ne 62, 3) ∧ 54 + 3 = 57 ∧ ((54 : Nat) : Int) + (62) = ((116 : Nat) : Int) := by decide +kernel
theorem e_X2_chance_57 : decode cX2_chance 57 = .ok (.iload 7, 2) ∧ 57 + 2 = 59 := by decide +kernel
theorem e_X2_chance_59 : decode cX2_chance 59 = .ok (.iload 4, 2) ∧ 59 + 2 = 61 := by decide +kernel
theorem e_X2_chance_61 : decode cX2_chance 61 = .ok (.iload_n 2, 1) ∧ 61 + 1 = 62 := by decide +kernel
theorem e_X2_chance_62 : decode cX2_chance 62 = .ok (.invokestatic 192, 3) ∧ 62 + 3 = 65 := by decide +kernel
theorem e_X2_chance_65 : decode cX2_chance 65 = .ok (.istore 8, 2) ∧ 65 + 2 = 67 := by decide +kernel
theorem e_X2_chance_67 : decode cX2_chance 67 = .ok (.iload 6, 2) ∧ 67 + 2 = 69 := by decide +kernel
theorem e_X2_chance_69 : decode cX2_chance 69 = .ok (.iload 8, 2) ∧ 69 + 2 = 71 := by decide +kernel
theorem e_X2_chance_71 : decode cX2_chance 71 = .ok (.iadd, 1) ∧ 71 + 1 = 72 := by decide +kernel
theorem e_X2_chance_72 : decode cX2_chance 72 = .ok (.istore 6, 2) ∧ 72 + 2 = 74 := by decide +kernel
theorem e_X2_chance_74 : decode cX2_chance 74 = .ok (.aload_n 0, 1) ∧ 74 + 1 = 75 := by decide +kernel
theorem e_X2_chance_75 : decode cX2_chance 75 = .ok (.getfield 27, 3) ∧ 75 + 3 = 78 := by decide +kernel
theorem e_X2_chance_78 : decode cX2_chance 78 = .ok (.aload_n 0, 1) ∧ 78 + 1 = 79 := by decide +kernel
theorem e_X2_chance_79 : decode cX2_chance 79 = .ok (.getfield 23, 3) ∧ 79 + 3 = 82 := by decide +kernel
theorem e_X2_chance_82 : decode cX2_chance 82 = .ok (.invokevirtual 61, 3) ∧ 82 + 3 = 85 := by decide +kernel
theorem e_X2_chance_85 : decode cX2_chance 85 = .ok (.aload_n 0, 1) ∧ 85 + 1 = 86 := by decide +kernel
theorem e_X2_chance_86 : decode cX2_chance 86 = .ok (.getfield 27, 3) ∧ 86 + 3 = 89 := by decide +kernel
theorem e_X2_chance_89 : decode cX2_chance 89 = .ok (.iload 7, 2) ∧ 89 + 2 = 91 := by decide +kernel
theorem e_X2_chance_91 : decode cX2_chance 91 = .ok (.invokevirtual 186, 3) ∧ 91 + 3 = 94 := by decide +kernel
theorem e_X2_chance_94 : decode cX2_chance 94 = .ok (.iload 5, 2) ∧ 94 + 2 = 96 := by decide +kernel
theorem e_X2_chance_96 : decode cX2_chance 96 = .ok (.aload_n 0, 1) ∧ 96 + 1 = 97 := by decide +kernel
theorem e_X2_chance_97 : decode cX2_chance 97 = .ok (.getfield 27, 3) ∧ 97 + 3 = 100 := by decide +kernel
theorem e_X2_chance_100 : decode cX2_chance 100 = .ok (.iload_n 1, 1) ∧ 100 + 1 = 101 := by decide +kernel
theorem e_X2_chance_101 : decode cX2_chance 101 = .ok (.invokevirtual 115, 3) ∧ 101 + 3 = 104 := by decide +kernel
theorem e_X2_chance_104 : decode cX2_chance 104 = .ok (.ifCond .eq 8, 3) ∧ 104 + 3 = 107 ∧ ((104 : Nat) : Int) + (8) = ((112 : Nat) : Int) := by decide +kernel
theorem e_X2_chance_107 : decode cX2_chance 107 = .ok (.iload 8, 2) ∧ 107 + 2 = 109 := by decide +kernel
theorem e_X2_chance_109 : decode cX2_chance 109 = .ok (.goto 4, 3) ∧ 109 + 3 = 112 ∧ ((109 : Nat) : Int) + (4) = ((113 : Nat) : Int) := by decide +kernel
theorem e_X2_chance_112 : decode cX2_chance 112 = .ok (.iconst 0, 1) ∧ 112 + 1 = 113 := by decide +kernel
theorem e_X2_chance_113 : decode cX2_chance 113 = .ok (.iadd, 1) ∧ 113 + 1 = 114 := by decide +kernel
theorem e_X2_chance_114 : decode cX2_chance 114 = .ok (.istore 5, 2) ∧ 114 + 2 = 116 := by decide +kernel
theorem e_X2_chance_116 : decode cX2_chance 116 = .ok (.iinc 7 1, 3) ∧ 116 + 3 = 119 := by decide +kernel
theorem e_X2_chance_119 : decode cX2_chance 119 = .ok (.goto (-79), 3) ∧ 119 + 3 = 122 ∧ ((119 : Nat) : Int) + (-79) = ((40 : Nat) : Int) := by decide +kernel
theorem e_X2_chance_122 : decode cX2_chance 122 = .ok (.iload 5, 2) ∧ 122 + 2 = 124 := by decide +kernel
theorem e_X2_chance_124 : decode cX2_chance 124 = .ok (.iload 6, 2) ∧ 124 + 2 = 126 := by decide +kernel
theorem e_X2_chance_126 : decode cX2_chance 126 = .ok (.invokestatic 195, 3) ∧ 126 + 3 = 129 := by decide +kernel
theorem e_X2_chance_129 : decode cX2_chance 129 = .ok (.istore 7, 2) ∧ 129 + 2 = 131 := by decide +kernel
theorem e_X2_chance_131 : decode cX2_chance 131 = .ok (.iload 7, 2) ∧ 131 + 2 = 133 := by decide +kernel
theorem e_X2_chance_133 : decode cX2_chance 133 = .ok (.ifCond .ne 5, 3) ∧ 133 + 3 = 136 ∧ ((133 : Nat) : Int) + (5) = ((138 : Nat) : Int) := by decide +kernel
theorem e_X2_chance_136 : decode cX2_chance 136 = .ok (.iconst 0, 1) ∧ 136 + 1 = 137 := by decide +kernel
theorem e_X2_chance_137 : decode cX2_chance 137 = .ok (.ireturn, 1) := by decide +kernel
theorem e_X2_chance_138 : decode cX2_chance 138 = .ok (.iload_n 3, 1) ∧ 138 + 1 = 139 := by decide +kernel
theorem e_X2_chance_139 : decode cX2_chance 139 = .ok (.ifCond .eq 8, 3) ∧ 139 + 3 = 142 ∧ ((139 : Nat) : Int) + (8) = ((147 : Nat) : Int) := by decide +kernel
theorem e_X2_chance_142 : decode cX2_chance 142 = .ok (.iload 5, 2) ∧ 142 + 2 = 144 := by decide +kernel
theorem e_X2_chance_144 : decode cX2_chance 144 = .ok (.goto 5, 3) ∧ 144 + 3 = 147 ∧ ((144 : Nat) : Int) + (5) = ((149 : Nat) : Int) := by decide +kernel
theorem e_X2_chance_147 : decode cX2_chance 147 = .ok (.iload 6, 2) ∧ 147 + 2 = 149 := by decide +kernel
theorem e_X2_chance_149 : decode cX2_chance 149 = .ok (.iload 7, 2) ∧ 149 + 2 = 151 := by decide +kernel
theorem e_X2_chance_151 : decode cX2_chance 151 = .ok (.idiv, 1) ∧ 151 + 1 = 152 := by decide +kernel
theorem e_X2_chance_152 : decode cX2_chance 152 = .ok (.ireturn, 1) := by decide +kernel
theorem e_X2_seed_0 : decode cX2_seed 0 = .ok (.aload_n 0, 1) ∧ 0 + 1 = 1 := by decide +kernel
theorem e_X2_seed_1 : decode cX2_seed 1 = .ok (.getfield 198, 3) ∧ 1 + 3 = 4 := by decide +kernel
theorem e_X2_seed_4 : decode cX2_seed 4 = .ok (.lstore_n 3, 1) ∧ 4 + 1 = 5 := by decide +kernel
theorem e_X2_seed_5 : decode cX2_seed 5 = .ok (.aload_n 0, 1) ∧ 5 + 1 = 6 := by decide +kernel
theorem e_X2_seed_6 : decode cX2_seed 6 = .ok (.lload_n 1, 1) ∧ 6 + 1 = 7 := by decide +kernel
theorem e_X2_seed_7 : decode cX2_seed 7 = .ok (.putfield 198, 3) ∧ 7 + 3 = 10 := by decide +kernel
theorem e_X2_seed_10 : decode cX2_seed 10 = .ok (.lload_n 3, 1) ∧ 10 + 1 = 11 := by decide +kernel
theorem e_X2_seed_11 : decode cX2_seed 11 = .ok (.lreturn, 1) := by decide +kernel
theorem e_X2_month_0 : decode cX2_month 0 = .ok (.iload_n 1, 1) ∧ 0 + 1 = 1 := by decide +kernel
theorem e_X2_month_1 : decode cX2_month 1 = .ok (.iconst 1, 1) ∧ 1 + 1 = 2 := by decide +kernel
theorem e_X2_month_2 : decode cX2_month 2 = .ok (.if_icmp .lt 19, 3) ∧ 2 + 3 = 5 ∧ ((2 : Nat) : Int) + (19) = ((21 : Nat) : Int) := by decide +kernel
theorem e_X2_month_5 : decode cX2_month 5 = .ok (.iload_n 1, 1) ∧ 5 + 1 = 6 := by decide +kernel
theorem e_X2_month_6 : decode cX2_month 6 = .ok (.bipush 30, 2) ∧ 6 + 2 = 8 := by decide +kernel
theorem e_X2_month_8 : decode cX2_month 8 = .ok (.if_icmp .gt 13, 3) ∧ 8 + 3 = 11 ∧ ((8 : Nat) : Int) + (13) = ((21 : Nat) : Int) := by decide +kernel
theorem e_X2_month_11 : decode cX2_month 11 = .ok (.iload_n 2, 1) ∧ 11 + 1 = 12 := by decide +kernel
theorem e_X2_month_12 : decode cX2_month 12 = .ok (.ifCond .lt 9, 3) ∧ 12 + 3 = 15 ∧ ((12 : Nat) : Int) + (9) = ((21 : Nat) : Int) := by decide +kernel
theorem e_X2_month_15 : decode cX2_month 15 = .ok (.iload_n 2, 1) ∧ 15 + 1 = 16 := by decide +kernel
theorem e_X2_month_16 : decode cX2_month 16 = .ok (.bipush 10, 2) ∧ 16 + 2 = 18 := by decide +kernel
theorem e_X2_month_18 : decode cX2_month 18 = .ok (.if_icmp .le 6, 3) ∧ 18 + 3 = 21 ∧ ((18 : Nat) : Int) + (6) = ((24 : Nat) : Int) := by decide +kernel
theorem e_X2_month_21 : decode cX2_month 21 = .ok (.bipush (-2), 2) ∧ 21 + 2 = 23 := by decide +kernel
theorem e_X2_month_23 : decode cX2_month 23 = .ok (.ireturn, 1) := by decide +kernel
theorem e_X2_month_24 : decode cX2_month 24 = .ok (.aload_n 0, 1) ∧ 24 + 1 = 25 := by decide +kernel
theorem e_X2_month_25 : decode cX2_month 25 = .ok (.getfield 27, 3) ∧ 25 + 3 = 28 := by decide +kernel
theorem e_X2_month_28 : decode cX2_month 28 = .ok (.aload_n 0, 1) ∧ 28 + 1 = 29 := by decide +kernel
theorem e_X2_month_29 : decode cX2_month 29 = .ok (.getfield 23, 3) ∧ 29 + 3 = 32 := by decide +kernel
theorem e_X2_month_32 : decode cX2_month 32 = .ok (.invokevirtual 61, 3) ∧ 32 + 3 = 35 := by decide +kernel
theorem e_X2_month_35 : decode cX2_month 35 = .ok (.iconst 0, 1) ∧ 35 + 1 = 36 := by decide +kernel
theorem e_X2_month_36 : decode cX2_month 36 = .ok (.istore_n 3, 1) ∧ 36 + 1 = 37 := by decide +kernel
theorem e_X2_month_37 : decode cX2_month 37 = .ok (.iload_n 3, 1) ∧ 37 + 1 = 38 := by decide +kernel
theorem e_X2_month_38 : decode cX2_month 38 = .ok (.iload_n 1, 1) ∧ 38 + 1 = 39 := by decide +kernel
theorem e_X2_month_39 : decode cX2_month 39 = .ok (.if_icmp .ge 62, 3) ∧ 39 + 3 = 42 ∧ ((39 : Nat) : Int) + (62) = ((101 : Nat) : Int) := by decide +kernel
theorem e_X2_month_42 : decode cX2_month 42 = .ok (.iconst 0, 1) ∧ 42 + 1 = 43 := by decide +kernel
theorem e_X2_month_43 : decode cX2_month 43 = .ok (.istore 4, 2) ∧ 43 + 2 = 45 := by decide +kernel
theorem e_X2_month_45 : decode cX2_month 45 = .ok (.iload 4, 2) ∧ 45 + 2 = 47 := by decide +kernel
theorem e_X2_month_47 : decode cX2_month 47 = .ok (.iconst 4, 1) ∧ 47 + 1 = 48 := by decide +kernel
theorem e_X2_month_48 : decode cX2_month 48 = .ok (.if_icmp .ge 39, 3) ∧ 48 + 3 = 51 ∧ ((48 : Nat) : Int) + (39) = ((87 : Nat) : Int) := by decide +kernel
theorem e_X2_month_51 : decode cX2_month 51 = .ok (.aload_n 0, 1) ∧ 51 + 1 = 52 := by decide +kernel
theorem e_X2_month_52 : decode cX2_month 52 = .ok (.getfield 27, 3) ∧ 52 + 3 = 55 := by decide +kernel
theorem e_X2_month_55 : decode cX2_month 55 = .ok (.iload 4, 2) ∧ 55 + 2 = 57 := by decide +kernel
theorem e_X2_month_57 : decode cX2_month 57 = .ok (.invokevirtual 134, 3) ∧ 57 + 3 = 60 := by decide +kernel
theorem e_X2_month_60 : decode cX2_month 60 = .ok (.ifCond .eq 21, 3) ∧ 60 + 3 = 63 ∧ ((60 : Nat) : Int) + (21) = ((81 : Nat) : Int) := by decide +kernel
theorem e_X2_month_63 : decode cX2_month 63 = .ok (.aload_n 0, 1) ∧ 63 + 1 = 64 := by decide +kernel
theorem e_X2_month_64 : decode cX2_month 64 = .ok (.invokevirtual 202, 3) ∧ 64 + 3 = 67 := by decide +kernel
theorem e_X2_month_67 : decode cX2_month 67 = .ok (.iload_n 2, 1) ∧ 67 + 1 = 68 := by decide +kernel
theorem e_X2_month_68 : decode cX2_month 68 = .ok (.if_icmp .ge 13, 3) ∧ 68 + 3 = 71 ∧ ((68 : Nat) : Int) + (13) = ((81 : Nat) : Int) := by decide +kernel
theorem e_X2_month_71 : decode cX2_month 71 = .ok (.aload_n 0, 1) ∧ 71 + 1 = 72 := by decide +kernel
theorem e_X2_month_72 : decode cX2_month 72 = .ok (.getfield 27, 3) ∧ 72 + 3 = 75 := by decide +kernel
theorem e_X2_month_75 : decode cX2_month 75 = .ok (.iload 4, 2) ∧ 75 + 2 = 77 := by decide +kernel
theorem e_X2_month_77 : decode cX2_month 77 = .ok (.invokevirtual 140, 3) ∧ 77 + 3 = 80 := by decide +kernel
theorem e_X2_month_80 : decode cX2_month 80 = .ok (.pop, 1) ∧ 80 + 1 = 81 := by decide +kernel
theorem e_X2_month_81 : decode cX2_month 81 = .ok (.iinc 4 1, 3) ∧ 81 + 3 = 84 := by decide +kernel
theorem e_X2_month_84 : decode cX2_month 84 = .ok (.goto (-39), 3) ∧ 84 + 3 = 87 ∧ ((84 : Nat) : Int) + (-39) = ((45 : Nat) : Int) := by decide +kernel
theorem e_X2_month_87 : decode cX2_month 87 = .ok (.aload_n 0, 1) ∧ 87 + 1 = 88 := by decide +kernel
theorem e_X2_month_88 : decode cX2_month 88 = .ok (.getfield 27, 3) ∧ 88 + 3 = 91 := by decide +kernel
theorem e_X2_month_91 : decode cX2_month 91 = .ok (.invokevirtual 162, 3) ∧ 91 + 3 = 94 := by decide +kernel
theorem e_X2_month_94 : decode cX2_month 94 = .ok (.pop, 1) ∧ 94 + 1 = 95 := by decide +kernel
theorem e_X2_month_95 : decode cX2_month 95 = .ok (.iinc 3 1, 3) ∧ 95 + 3 = 98 := by decide +kernel
theorem e_X2_month_98 : decode cX2_month 98 = .ok (.goto (-61), 3) ∧ 98 + 3 = 101 ∧ ((98 : Nat) : Int) + (-61) = ((37 : Nat) : Int) := by decide +kernel
theorem e_X2_month_101 : decode cX2_month 101 = .ok (.aload_n 0, 1) ∧ 101 + 1 = 102 := by decide +kernel
theorem e_X2_month_102 : decode cX2_month 102 = .ok (.getfield 27, 3) ∧ 102 + 3 = 105 := by decide +kernel
theorem e_X2_month_105 : decode cX2_month 105 = .ok (.getfield 80, 3) ∧ 105 + 3 = 108 := by decide +kernel
theorem e_X2_month_108 : decode cX2_month 108 = .ok (.ireturn, 1) := by decide +kernel
theorem e_X2_keep_0 : decode cX2_keep 0 = .ok (.iload_n 1, 1) ∧ 0 + 1 = 1 := by decide +kernel
theorem e_X2_keep_1 : decode cX2_keep 1 = .ok (.ifCond .lt 8, 3) ∧ 1 + 3 = 4 ∧ ((1 : Nat) : Int) + (8) = ((9 : Nat) : Int) := by decide +kernel
theorem e_X2_keep_4 : decode cX2_keep 4 = .ok (.iload_n 1, 1) ∧ 4 + 1 = 5 := by decide +kernel
theorem e_X2_keep_5 : decode cX2_keep 5 = .ok (.iconst 2, 1) ∧ 5 + 1 = 6 := by decide +kernel
theorem e_X2_keep_6 : decode cX2_keep 6 = .ok (.if_icmp .lt 5, 3) ∧ 6 + 3 = 9 ∧ ((6 : Nat) : Int) + (5) = ((11 : Nat) : Int) := by decide +kernel
theorem e_X2_keep_9 : decode cX2_keep 9 = .ok (.iconst (-1), 1) ∧ 9 + 1 = 10 := by decide +kernel
theorem e_X2_keep_10 : decode cX2_keep 10 = .ok (.ireturn, 1) := by decide +kernel
theorem e_X2_keep_11 : decode cX2_keep 11 = .ok (.aload_n 0, 1) ∧ 11 + 1 = 12 := by decide +kernel
theorem e_X2_keep_12 : decode cX2_keep 12 = .ok (.getfield 37, 3) ∧ 12 + 3 = 15 := by decide +kernel
theorem e_X2_keep_15 : decode cX2_keep 15 = .ok (.iload_n 1, 1) ∧ 15 + 1 = 16 := by decide +kernel
theorem e_X2_keep_16 : decode cX2_keep 16 = .ok (.aaload, 1) ∧ 16 + 1 = 17 := by decide +kernel
theorem e_X2_keep_17 : decode cX2_keep 17 = .ok (.astore_n 2, 1) ∧ 17 + 1 = 18 := by decide +kernel
theorem e_X2_keep_18 : decode cX2_keep 18 = .ok (.aload_n 2, 1) ∧ 18 + 1 = 19 := by decide +kernel
theorem e_X2_keep_19 : decode cX2_keep 19 = .ok (.ifnull 11, 3) ∧ 19 + 3 = 22 ∧ ((19 : Nat) : Int) + (11) = ((30 : Nat) : Int) := by decide +kernel
theorem e_X2_keep_22 : decode cX2_keep 22 = .ok (.aload_n 2, 1) ∧ 22 + 1 = 23 := by decide +kernel
theorem e_X2_keep_23 : decode cX2_keep 23 = .ok (.aload_n 0, 1) ∧ 23 + 1 = 24 := by decide +kernel
theorem e_X2_keep_24 : decode cX2_keep 24 = .ok (.getfield 23, 3) ∧ 24 + 3 = 27 := by decide +kernel
theorem e_X2_keep_27 : decode cX2_keep 27 = .ok (.invokevirtual 61, 3) ∧ 27 + 3 = 30 := by decide +kernel
theorem e_X2_keep_30 : decode cX2_keep 30 = .ok (.aload_n 0, 1) ∧ 30 + 1 = 31 := by decide +kernel
theorem e_X2_keep_31 : decode cX2_keep 31 = .ok (.dup, 1) ∧ 31 + 1 = 32 := by decide +kernel
theorem e_X2_keep_32 : decode cX2_keep 32 = .ok (.getfield 68, 3) ∧ 32 + 3 = 35 := by decide +kernel
theorem e_X2_keep_35 : decode cX2_keep 35 = .ok (.iconst 1, 1) ∧ 35 + 1 = 36 := by decide +kernel
theorem e_X2_keep_36 : decode cX2_keep 36 = .ok (.iload_n 1, 1) ∧ 36 + 1 = 37 := by decide +kernel
theorem e_X2_keep_37 : decode cX2_keep 37 = .ok (.ishl, 1) ∧ 37 + 1 = 38 := by decide +kernel
theorem e_X2_keep_38 : decode cX2_keep 38 = .ok (.ior, 1) ∧ 38 + 1 = 39 := by decide +kernel
theorem e_X2_keep_39 : decode cX2_keep 39 = .ok (.putfield 68, 3) ∧ 39 + 3 = 42 := by decide +kernel
theorem e_X2_keep_42 : decode cX2_keep 42 = .ok (.aload_n 0, 1) ∧ 42 + 1 = 43 := by decide +kernel
theorem e_X2_keep_43 : decode cX2_keep 43 = .ok (.getfield 23, 3) ∧ 43 + 3 = 46 := by decide +kernel
theorem e_X2_keep_46 : decode cX2_keep 46 = .ok (.getfield 77, 3) ∧ 46 + 3 = 49 := by decide +kernel
theorem e_X2_keep_49 : decode cX2_keep 49 = .ok (.ireturn, 1) := by decide +kernel
theorem e_X2_again_0 : decode cX2_again 0 = .ok (.iload_n 1, 1) ∧ 0 + 1 = 1 := by decide +kernel
theorem e_X2_again_1 : decode cX2_again 1 = .ok (.ifCond .lt 8, 3) ∧ 1 + 3 = 4 ∧ ((1 : Nat) : Int) + (8) = ((9 : Nat) : Int) := by decide +kernel
theorem e_X2_again_4 : decode cX2_again 4 = .ok (.iload_n 1, 1) ∧ 4 + 1 = 5 := by decide +kernel
theorem e_X2_again_5 : decode cX2_again 5 = .ok (.iconst 2, 1) ∧ 5 + 1 = 6 := by decide +kernel
theorem e_X2_again_6 : decode cX2_again 6 = .ok (.if_icmp .lt 5, 3) ∧ 6 + 3 = 9 ∧ ((6 : Nat) : Int) + (5) = ((11 : Nat) : Int) := by decide +kernel
theorem e_X2_again_9 : decode cX2_again 9 = .ok (.iconst (-1), 1) ∧ 9 + 1 = 10 := by decide +kernel
theorem e_X2_again_10 : decode cX2_again 10 = .ok (.ireturn, 1) := by decide +kernel
theorem e_X2_again_11 : decode cX2_again 11 = .ok (.aload_n 0, 1) ∧ 11 + 1 = 12 := by decide +kernel
theorem e_X2_again_12 : decode cX2_again 12 = .ok (.getfield 68, 3) ∧ 12 + 3 = 15 := by decide +kernel
theorem e_X2_again_15 : decode cX2_again 15 = .ok (.iload_n 1, 1) ∧ 15 + 1 = 16 := by decide +kernel
theorem e_X2_again_16 : decode cX2_again 16 = .ok (.invokestatic 152, 3) ∧ 16 + 3 = 19 := by decide +kernel
theorem e_X2_again_19 : decode cX2_again 19 = .ok (.ifCond .ne 6, 3) ∧ 19 + 3 = 22 ∧ ((19 : Nat) : Int) + (6) = ((25 : Nat) : Int) := by decide +kernel
theorem e_X2_again_22 : decode cX2_again 22 = .ok (.bipush (-3), 2) ∧ 22 + 2 = 24 := by decide +kernel
theorem e_X2_again_24 : decode cX2_again 24 = .ok (.ireturn, 1) := by decide +kernel
theorem e_X2_again_25 : decode cX2_again 25 = .ok (.aload_n 0, 1) ∧ 25 + 1 = 26 := by decide +kernel
theorem e_X2_again_26 : decode cX2_again 26 = .ok (.getfield 23, 3) ∧ 26 + 3 = 29 := by decide +kernel
theorem e_X2_again_29 : decode cX2_again 29 = .ok (.aload_n 0, 1) ∧ 29 + 1 = 30 := by decide +kernel
theorem e_X2_again_30 : decode cX2_again 30 = .ok (.getfield 37, 3) ∧ 30 + 3 = 33 := by decide +kernel
theorem e_X2_again_33 : decode cX2_again 33 = .ok (.iload_n 1, 1) ∧ 33 + 1 = 34 := by decide +kernel
theorem e_X2_again_34 : decode cX2_again 34 = .ok (.aaload, 1) ∧ 34 + 1 = 35 := by decide +kernel
theorem e_X2_again_35 : decode cX2_again 35 = .ok (.invokevirtual 61, 3) ∧ 35 + 3 = 38 := by decide +kernel
theorem e_X2_again_38 : decode cX2_again 38 = .ok (.aload_n 0, 1) ∧ 38 + 1 = 39 := by decide +kernel
theorem e_X2_again_39 : decode cX2_again 39 = .ok (.iconst 0, 1) ∧ 39 + 1 = 40 := by decide +kernel
theorem e_X2_again_40 : decode cX2_again 40 = .ok (.putfield 65, 3) ∧ 40 + 3 = 43 := by decide +kernel
theorem e_X2_again_43 : decode cX2_again 43 = .ok (.aload_n 0, 1) ∧ 43 + 1 = 44 := by decide +kernel
theorem e_X2_again_44 : decode cX2_again 44 = .ok (.getfield 23, 3) ∧ 44 + 3 = 47 := by decide +kernel
theorem e_X2_again_47 : decode cX2_again 47 = .ok (.getfield 77, 3) ∧ 47 + 3 = 50 := by decide +kernel
theorem e_X2_again_50 : decode cX2_again 50 = .ok (.ireturn, 1) := by decide +kernel
theorem e_X2_isCell_0 : decode cX2_isCell 0 = .ok (.iload_n 0, 1) ∧ 0 + 1 = 1 := by decide +kernel
theorem e_X2_isCell_1 : decode cX2_isCell 1 = .ok (.ifCond .lt 13, 3) ∧ 1 + 3 = 4 ∧ ((1 : Nat) : Int) + (13) = ((14 : Nat) : Int) := by decide +kernel
theorem e_X2_isCell_4 : decode cX2_isCell 4 = .ok (.iload_n 0, 1) ∧ 4 + 1 = 5 := by decide +kernel
theorem e_X2_isCell_5 : decode cX2_isCell 5 = .ok (.bipush 12, 2) ∧ 5 + 2 = 7 := by decide +kernel
theorem e_X2_isCell_7 : decode cX2_isCell 7 = .ok (.if_icmp .ge 7, 3) ∧ 7 + 3 = 10 ∧ ((7 : Nat) : Int) + (7) = ((14 : Nat) : Int) := by decide +kernel
theorem e_X2_isCell_10 : decode cX2_isCell 10 = .ok (.iconst 1, 1) ∧ 10 + 1 = 11 := by decide +kernel
theorem e_X2_isCell_11 : decode cX2_isCell 11 = .ok (.goto 4, 3) ∧ 11 + 3 = 14 ∧ ((11 : Nat) : Int) + (4) = ((15 : Nat) : Int) := by decide +kernel
theorem e_X2_isCell_14 : decode cX2_isCell 14 = .ok (.iconst 0, 1) ∧ 14 + 1 = 15 := by decide +kernel
theorem e_X2_isCell_15 : decode cX2_isCell 15 = .ok (.ireturn, 1) := by decide +kernel
theorem e_X2_has_0 : decode cX2_has 0 = .ok (.iload_n 0, 1) ∧ 0 + 1 = 1 := by decide +kernel
theorem e_X2_has_1 : decode cX2_has 1 = .ok (.iload_n 1, 1) ∧ 1 + 1 = 2 := by decide +kernel
theorem e_X2_has_2 : decode cX2_has 2 = .ok (.ishr, 1) ∧ 2 + 1 = 3 := by decide +kernel
theorem e_X2_has_3 : decode cX2_has 3 = .ok (.iconst 1, 1) ∧ 3 + 1 = 4 := by decide +kernel
theorem e_X2_has_4 : decode cX2_has 4 = .ok (.iand, 1) ∧ 4 + 1 = 5 := by decide +kernel
theorem e_X2_has_5 : decode cX2_has 5 = .ok (.ifCond .eq 7, 3) ∧ 5 + 3 = 8 ∧ ((5 : Nat) : Int) + (7) = ((12 : Nat) : Int) := by decide +kernel
theorem e_X2_has_8 : decode cX2_has 8 = .ok (.iconst 1, 1) ∧ 8 + 1 = 9 := by decide +kernel
theorem e_X2_has_9 : decode cX2_has 9 = .ok (.goto 4, 3) ∧ 9 + 3 = 12 ∧ ((9 : Nat) : Int) + (4) = ((13 : Nat) : Int) := by decide +kernel
theorem e_X2_has_12 : decode cX2_has 12 = .ok (.iconst 0, 1) ∧ 12 + 1 = 13 := by decide +kernel
theorem e_X2_has_13 : decode cX2_has 13 = .ok (.ireturn, 1) := by decide +kernel
theorem e_X2_at_0 : decode cX2_at 0 = .ok (.iload_n 1, 1) ∧ 0 + 1 = 1 := by decide +kernel
theorem e_X2_at_1 : decode cX2_at 1 = .ok (.ifCond .lt 15, 3) ∧ 1 + 3 = 4 ∧ ((1 : Nat) : Int) + (15) = ((16 : Nat) : Int) := by decide +kernel
theorem e_X2_at_4 : decode cX2_at 4 = .ok (.iload_n 1, 1) ∧ 4 + 1 = 5 := by decide +kernel
theorem e_X2_at_5 : decode cX2_at 5 = .ok (.aload_n 0, 1) ∧ 5 + 1 = 6 := by decide +kernel
theorem e_X2_at_6 : decode cX2_at 6 = .ok (.arraylength, 1) ∧ 6 + 1 = 7 := by decide +kernel
theorem e_X2_at_7 : decode cX2_at 7 = .ok (.if_icmp .ge 9, 3) ∧ 7 + 3 = 10 ∧ ((7 : Nat) : Int) + (9) = ((16 : Nat) : Int) := by decide +kernel
theorem e_X2_at_10 : decode cX2_at 10 = .ok (.aload_n 0, 1) ∧ 10 + 1 = 11 := by decide +kernel
theorem e_X2_at_11 : decode cX2_at 11 = .ok (.iload_n 1, 1) ∧ 11 + 1 = 12 := by decide +kernel
theorem e_X2_at_12 : decode cX2_at 12 = .ok (.iaload, 1) ∧ 12 + 1 = 13 := by decide +kernel
theorem e_X2_at_13 : decode cX2_at 13 = .ok (.goto 4, 3) ∧ 13 + 3 = 16 ∧ ((13 : Nat) : Int) + (4) = ((17 : Nat) : Int) := by decide +kernel
theorem e_X2_at_16 : decode cX2_at 16 = .ok (.iconst 0, 1) ∧ 16 + 1 = 17 := by decide +kernel
theorem e_X2_at_17 : decode cX2_at 17 = .ok (.ireturn, 1) := by decide +kernel
theorem e_X2_put_0 : decode cX2_put 0 = .ok (.iload_n 1, 1) ∧ 0 + 1 = 1 := by decide +kernel
theorem e_X2_put_1 : decode cX2_put 1 = .ok (.ifCond .lt 13, 3) ∧ 1 + 3 = 4 ∧ ((1 : Nat) : Int) + (13) = ((14 : Nat) : Int) := by decide +kernel
theorem e_X2_put_4 : decode cX2_put 4 = .ok (.iload_n 1, 1) ∧ 4 + 1 = 5 := by decide +kernel
theorem e_X2_put_5 : decode cX2_put 5 = .ok (.aload_n 0, 1) ∧ 5 + 1 = 6 := by decide +kernel
theorem e_X2_put_6 : decode cX2_put 6 = .ok (.arraylength, 1) ∧ 6 + 1 = 7 := by decide +kernel
theorem e_X2_put_7 : decode cX2_put 7 = .ok (.if_icmp .ge 7, 3) ∧ 7 + 3 = 10 ∧ ((7 : Nat) : Int) + (7) = ((14 : Nat) : Int) := by decide +kernel
theorem e_X2_put_10 : decode cX2_put 10 = .ok (.aload_n 0, 1) ∧ 10 + 1 = 11 := by decide +kernel
theorem e_X2_put_11 : decode cX2_put 11 = .ok (.iload_n 1, 1) ∧ 11 + 1 = 12 := by decide +kernel
theorem e_X2_put_12 : decode cX2_put 12 = .ok (.iload_n 2, 1) ∧ 12 + 1 = 13 := by decide +kernel
theorem e_X2_put_13 : decode cX2_put 13 = .ok (.iastore, 1) ∧ 13 + 1 = 14 := by decide +kernel
theorem e_X2_put_14 : decode cX2_put 14 = .ok (.return_, 1) := by decide +kernel
theorem e_X2_readText_0 : decode cX2_readText 0 = .ok (.aload_n 0, 1) ∧ 0 + 1 = 1 := by decide +kernel
theorem e_X2_readText_1 : decode cX2_readText 1 = .ok (.getfield 16, 3) ∧ 1 + 3 = 4 := by decide +kernel
theorem e_X2_readText_4 : decode cX2_readText 4 = .ok (.invokevirtual 205, 3) ∧ 4 + 3 = 7 := by decide +kernel
theorem e_X2_readText_7 : decode cX2_readText 7 = .ok (.iconst 0, 1) ∧ 7 + 1 = 8 := by decide +kernel
theorem e_X2_readText_8 : decode cX2_readText 8 = .ok (.istore_n 1, 1) ∧ 8 + 1 = 9 := by decide +kernel
theorem e_X2_readText_9 : decode cX2_readText 9 = .ok (.iload_n 1, 1) ∧ 9 + 1 = 10 := by decide +kernel
theorem e_X2_readText_10 : decode cX2_readText 10 = .ok (.aload_n 0, 1) ∧ 10 + 1 = 11 := by decide +kernel
theorem e_X2_readText_11 : decode cX2_readText 11 = .ok (.getfield 46, 3) ∧ 11 + 3 = 14 := by decide +kernel
theorem e_X2_readText_14 : decode cX2_readText 14 = .ok (.if_icmp .ge 29, 3) ∧ 14 + 3 = 17 ∧ ((14 : Nat) : Int) + (29) = ((43 : Nat) : Int) := by decide +kernel
theorem e_X2_readText_17 : decode cX2_readText 17 = .ok (.aload_n 0, 1) ∧ 17 + 1 = 18 := by decide +kernel
theorem e_X2_readText_18 : decode cX2_readText 18 = .ok (.getfield 16, 3) ∧ 18 + 3 = 21 := by decide +kernel
theorem e_X2_readText_21 : decode cX2_readText 21 = .ok (.aload_n 0, 1) ∧ 21 + 1 = 22 := by decide +kernel
theorem e_X2_readText_22 : decode cX2_readText 22 = .ok (.getfield 9, 3) ∧ 22 + 3 = 25 := by decide +kernel
theorem e_X2_readText_25 : decode cX2_readText 25 = .ok (.iload_n 1, 1) ∧ 25 + 1 = 26 := by decide +kernel
theorem e_X2_readText_26 : decode cX2_readText 26 = .ok (.invokestatic 102, 3) ∧ 26 + 3 = 29 := by decide +kernel
theorem e_X2_readText_29 : decode cX2_readText 29 = .ok (.invokevirtual 208, 3) ∧ 29 + 3 = 32 := by decide +kernel
theorem e_X2_readText_32 : decode cX2_readText 32 = .ok (.ifCond .ne 5, 3) ∧ 32 + 3 = 35 ∧ ((32 : Nat) : Int) + (5) = ((37 : Nat) : Int) := by decide +kernel
theorem e_X2_readText_35 : decode cX2_readText 35 = .ok (.iload_n 1, 1) ∧ 35 + 1 = 36 := by decide +kernel
theorem e_X2_readText_36 : decode cX2_readText 36 = .ok (.ireturn, 1) := by decide +kernel
theorem e_X2_readText_37 : decode cX2_readText 37 = .ok (.iinc 1 1, 3) ∧ 37 + 3 = 40 := by decide +kernel
theorem e_X2_readText_40 : decode cX2_readText 40 = .ok (.goto (-31), 3) ∧ 40 + 3 = 43 ∧ ((40 : Nat) : Int) + (-31) = ((9 : Nat) : Int) := by decide +kernel
theorem e_X2_readText_43 : decode cX2_readText 43 = .ok (.aload_n 0, 1) ∧ 43 + 1 = 44 := by decide +kernel
theorem e_X2_readText_44 : decode cX2_readText 44 = .ok (.getfield 16, 3) ∧ 44 + 3 = 47 := by decide +kernel
theorem e_X2_readText_47 : decode cX2_readText 47 = .ok (.invokevirtual 211, 3) ∧ 47 + 3 = 50 := by decide +kernel
theorem e_X2_readText_50 : decode cX2_readText 50 = .ok (.ifCond .eq 8, 3) ∧ 50 + 3 = 53 ∧ ((50 : Nat) : Int) + (8) = ((58 : Nat) : Int) := by decide +kernel
theorem e_X2_readText_53 : decode cX2_readText 53 = .ok (.bipush (-9), 2) ∧ 53 + 2 = 55 := by decide +kernel
theorem e_X2_readText_55 : decode cX2_readText 55 = .ok (.goto 7, 3) ∧ 55 + 3 = 58 ∧ ((55 : Nat) : Int) + (7) = ((62 : Nat) : Int) := by decide +kernel
theorem e_X2_readText_58 : decode cX2_readText 58 = .ok (.aload_n 0, 1) ∧ 58 + 1 = 59 := by decide +kernel
theorem e_X2_readText_59 : decode cX2_readText 59 = .ok (.getfield 46, 3) ∧ 59 + 3 = 62 := by decide +kernel
theorem e_X2_readText_62 : decode cX2_readText 62 = .ok (.ireturn, 1) := by decide +kernel
theorem e_X2_remember_0 : decode cX2_remember 0 = .ok (.aload_n 0, 1) ∧ 0 + 1 = 1 := by decide +kernel
theorem e_X2_remember_1 : decode cX2_remember 1 = .ok (.getfield 65, 3) ∧ 1 + 3 = 4 := by decide +kernel
theorem e_X2_remember_4 : decode cX2_remember 4 = .ok (.aload_n 0, 1) ∧ 4 + 1 = 5 := by decide +kernel
theorem e_X2_remember_5 : decode cX2_remember 5 = .ok (.getfield 33, 3) ∧ 5 + 3 = 8 := by decide +kernel
theorem e_X2_remember_8 : decode cX2_remember 8 = .ok (.arraylength, 1) ∧ 8 + 1 = 9 := by decide +kernel
theorem e_X2_remember_9 : decode cX2_remember 9 = .ok (.if_icmp .lt 60, 3) ∧ 9 + 3 = 12 ∧ ((9 : Nat) : Int) + (60) = ((69 : Nat) : Int) := by decide +kernel
theorem e_X2_remember_12 : decode cX2_remember 12 = .ok (.iconst 1, 1) ∧ 12 + 1 = 13 := by decide +kernel
theorem e_X2_remember_13 : decode cX2_remember 13 = .ok (.istore_n 1, 1) ∧ 13 + 1 = 14 := by decide +kernel
theorem e_X2_remember_14 : decode cX2_remember 14 = .ok (.iload_n 1, 1) ∧ 14 + 1 = 15 := by decide +kernel
theorem e_X2_remember_15 : decode cX2_remember 15 = .ok (.aload_n 0, 1) ∧ 15 + 1 = 16 := by decide +kernel
theorem e_X2_remember_16 : decode cX2_remember 16 = .ok (.getfield 33, 3) ∧ 16 + 3 = 19 := by decide +kernel
theorem e_X2_remember_19 : decode cX2_remember 19 = .ok (.arraylength, 1) ∧ 19 + 1 = 20 := by decide +kernel
theorem e_X2_remember_20 : decode cX2_remember 20 = .ok (.if_icmp .ge 39, 3) ∧ 20 + 3 = 23 ∧ ((20 : Nat) : Int) + (39) = ((59 : Nat) : Int) := by decide +kernel
theorem e_X2_remember_23 : decode cX2_remember 23 = .ok (.aload_n 0, 1) ∧ 23 + 1 = 24 := by decide +kernel
theorem e_X2_remember_24 : decode cX2_remember 24 = .ok (.getfield 33, 3) ∧ 24 + 3 = 27 := by decide +kernel
theorem e_X2_remember_27 : decode cX2_remember 27 = .ok (.iload_n 1, 1) ∧ 27 + 1 = 28 := by decide +kernel
theorem e_X2_remember_28 : decode cX2_remember 28 = .ok (.iconst 1, 1) ∧ 28 + 1 = 29 := by decide +kernel
theorem e_X2_remember_29 : decode cX2_remember 29 = .ok (.isub, 1) ∧ 29 + 1 = 30 := by decide +kernel
theorem e_X2_remember_30 : decode cX2_remember 30 = .ok (.aaload, 1) ∧ 30 + 1 = 31 := by decide +kernel
theorem e_X2_remember_31 : decode cX2_remember 31 = .ok (.astore_n 2, 1) ∧ 31 + 1 = 32 := by decide +kernel
theorem e_X2_remember_32 : decode cX2_remember 32 = .ok (.aload_n 0, 1) ∧ 32 + 1 = 33 := by decide +kernel
theorem e_X2_remember_33 : decode cX2_remember 33 = .ok (.getfield 33, 3) ∧ 33 + 3 = 36 := by decide +kernel
theorem e_X2_remember_36 : decode cX2_remember 36 = .ok (.iload_n 1, 1) ∧ 36 + 1 = 37 := by decide +kernel
theorem e_X2_remember_37 : decode cX2_remember 37 = .ok (.iconst 1, 1) ∧ 37 + 1 = 38 := by decide +kernel
theorem e_X2_remember_38 : decode cX2_remember 38 = .ok (.isub, 1) ∧ 38 + 1 = 39 := by decide +kernel
theorem e_X2_remember_39 : decode cX2_remember 39 = .ok (.aload_n 0, 1) ∧ 39 + 1 = 40 := by decide +kernel
theorem e_X2_remember_40 : decode cX2_remember 40 = .ok (.getfield 33, 3) ∧ 40 + 3 = 43 := by decide +kernel
theorem e_X2_remember_43 : decode cX2_remember 43 = .ok (.iload_n 1, 1) ∧ 43 + 1 = 44 := by decide +kernel
theorem e_X2_remember_44 : decode cX2_remember 44 = .ok (.aaload, 1) ∧ 44 + 1 = 45 := by decide +kernel
theorem e_X2_remember_45 : decode cX2_remember 45 = .ok (.aastore, 1) ∧ 45 + 1 = 46 := by decide +kernel
theorem e_X2_remember_46 : decode cX2_remember 46 = .ok (.aload_n 0, 1) ∧ 46 + 1 = 47 := by decide +kernel
theorem e_X2_remember_47 : decode cX2_remember 47 = .ok (.getfield 33, 3) ∧ 47 + 3 = 50 := by decide +kernel
theorem e_X2_remember_50 : decode cX2_remember 50 = .ok (.iload_n 1, 1) ∧ 50 + 1 = 51 := by decide +kernel
theorem e_X2_remember_51 : decode cX2_remember 51 = .ok (.aload_n 2, 1) ∧ 51 + 1 = 52 := by decide +kernel
theorem e_X2_remember_52 : decode cX2_remember 52 = .ok (.aastore, 1) ∧ 52 + 1 = 53 := by decide +kernel
theorem e_X2_remember_53 : decode cX2_remember 53 = .ok (.iinc 1 1, 3) ∧ 53 + 3 = 56 := by decide +kernel
theorem e_X2_remember_56 : decode cX2_remember 56 = .ok (.goto (-42), 3) ∧ 56 + 3 = 59 ∧ ((56 : Nat) : Int) + (-42) = ((14 : Nat) : Int) := by decide +kernel
theorem e_X2_remember_59 : decode cX2_remember 59 = .ok (.aload_n 0, 1) ∧ 59 + 1 = 60 := by decide +kernel
theorem e_X2_remember_60 : decode cX2_remember 60 = .ok (.dup, 1) ∧ 60 + 1 = 61 := by decide +kernel
theorem e_X2_remember_61 : decode cX2_remember 61 = .ok (.getfield 65, 3) ∧ 61 + 3 = 64 := by decide +kernel
theorem e_X2_remember_64 : decode cX2_remember 64 = .ok (.iconst 1, 1) ∧ 64 + 1 = 65 := by decide +kernel
theorem e_X2_remember_65 : decode cX2_remember 65 = .ok (.isub, 1) ∧ 65 + 1 = 66 := by decide +kernel
theorem e_X2_remember_66 : decode cX2_remember 66 = .ok (.putfield 65, 3) ∧ 66 + 3 = 69 := by decide +kernel
theorem e_X2_remember_69 : decode cX2_remember 69 = .ok (.aload_n 0, 1) ∧ 69 + 1 = 70 := by decide +kernel
theorem e_X2_remember_70 : decode cX2_remember 70 = .ok (.getfield 65, 3) ∧ 70 + 3 = 73 := by decide +kernel
theorem e_X2_remember_73 : decode cX2_remember 73 = .ok (.ifCond .lt 47, 3) ∧ 73 + 3 = 76 ∧ ((73 : Nat) : Int) + (47) = ((120 : Nat) : Int) := by decide +kernel
theorem e_X2_remember_76 : decode cX2_remember 76 = .ok (.aload_n 0, 1) ∧ 76 + 1 = 77 := by decide +kernel
theorem e_X2_remember_77 : decode cX2_remember 77 = .ok (.getfield 65, 3) ∧ 77 + 3 = 80 := by decide +kernel
theorem e_X2_remember_80 : decode cX2_remember 80 = .ok (.aload_n 0, 1) ∧ 80 + 1 = 81 := by decide +kernel
theorem e_X2_remember_81 : decode cX2_remember 81 = .ok (.getfield 33, 3) ∧ 81 + 3 = 84 := by decide +kernel
theorem e_X2_remember_84 : decode cX2_remember 84 = .ok (.arraylength, 1) ∧ 84 + 1 = 85 := by decide +kernel
theorem e_X2_remember_85 : decode cX2_remember 85 = .ok (.if_icmp .ge 35, 3) ∧ 85 + 3 = 88 ∧ ((85 : Nat) : Int) + (35) = ((120 : Nat) : Int) := by decide +kernel
theorem e_X2_remember_88 : decode cX2_remember 88 = .ok (.aload_n 0, 1) ∧ 88 + 1 = 89 := by decide +kernel
theorem e_X2_remember_89 : decode cX2_remember 89 = .ok (.getfield 33, 3) ∧ 89 + 3 = 92 := by decide +kernel
theorem e_X2_remember_92 : decode cX2_remember 92 = .ok (.aload_n 0, 1) ∧ 92 + 1 = 93 := by decide +kernel
theorem e_X2_remember_93 : decode cX2_remember 93 = .ok (.getfield 65, 3) ∧ 93 + 3 = 96 := by decide +kernel
theorem e_X2_remember_96 : decode cX2_remember 96 = .ok (.aaload, 1) ∧ 96 + 1 = 97 := by decide +kernel
theorem e_X2_remember_97 : decode cX2_remember 97 = .ok (.astore_n 1, 1) ∧ 97 + 1 = 98 := by decide +kernel
theorem e_X2_remember_98 : decode cX2_remember 98 = .ok (.aload_n 1, 1) ∧ 98 + 1 = 99 := by decide +kernel
theorem e_X2_remember_99 : decode cX2_remember 99 = .ok (.ifnull 11, 3) ∧ 99 + 3 = 102 ∧ ((99 : Nat) : Int) + (11) = ((110 : Nat) : Int) := by decide +kernel
theorem e_X2_remember_102 : decode cX2_remember 102 = .ok (.aload_n 1, 1) ∧ 102 + 1 = 103 := by decide +kernel
theorem e_X2_remember_103 : decode cX2_remember 103 = .ok (.aload_n 0, 1) ∧ 103 + 1 = 104 := by decide +kernel
theorem e_X2_remember_104 : decode cX2_remember 104 = .ok (.getfield 23, 3) ∧ 104 + 3 = 107 := by decide +kernel
theorem e_X2_remember_107 : decode cX2_remember 107 = .ok (.invokevirtual 61, 3) ∧ 107 + 3 = 110 := by decide +kernel
theorem e_X2_remember_110 : decode cX2_remember 110 = .ok (.aload_n 0, 1) ∧ 110 + 1 = 111 := by decide +kernel
theorem e_X2_remember_111 : decode cX2_remember 111 = .ok (.dup, 1) ∧ 111 + 1 = 112 := by decide +kernel
theorem e_X2_remember_112 : decode cX2_remember 112 = .ok (.getfield 65, 3) ∧ 112 + 3 = 115 := by decide +kernel
theorem e_X2_remember_115 : decode cX2_remember 115 = .ok (.iconst 1, 1) ∧ 115 + 1 = 116 := by decide +kernel
theorem e_X2_remember_116 : decode cX2_remember 116 = .ok (.iadd, 1) ∧ 116 + 1 = 117 := by decide +kernel
theorem e_X2_remember_117 : decode cX2_remember 117 = .ok (.putfield 65, 3) ∧ 117 + 3 = 120 := by decide +kernel
theorem e_X2_remember_120 : decode cX2_remember 120 = .ok (.return_, 1) := by decide +kernel
theorem e_X2_breakOf_0 : decode cX2_breakOf 0 = .ok (.aload_n 0, 1) ∧ 0 + 1 = 1 := by decide +kernel
theorem e_X2_breakOf_1 : decode cX2_breakOf 1 = .ok (.getfield 27, 3) ∧ 1 + 3 = 4 := by decide +kernel
theorem e_X2_breakOf_4 : decode cX2_breakOf 4 = .ok (.aload_n 0, 1) ∧ 4 + 1 = 5 := by decide +kernel
theorem e_X2_breakOf_5 : decode cX2_breakOf 5 = .ok (.getfield 23, 3) ∧ 5 + 3 = 8 := by decide +kernel
theorem e_X2_breakOf_8 : decode cX2_breakOf 8 = .ok (.invokevirtual 61, 3) ∧ 8 + 3 = 11 := by decide +kernel
theorem e_X2_breakOf_11 : decode cX2_breakOf 11 = .ok (.iconst 0, 1) ∧ 11 + 1 = 12 := by decide +kernel
theorem e_X2_breakOf_12 : decode cX2_breakOf 12 = .ok (.istore_n 2, 1) ∧ 12 + 1 = 13 := by decide +kernel
theorem e_X2_breakOf_13 : decode cX2_breakOf 13 = .ok (.iload_n 2, 1) ∧ 13 + 1 = 14 := by decide +kernel
theorem e_X2_breakOf_14 : decode cX2_breakOf 14 = .ok (.iload_n 1, 1) ∧ 14 + 1 = 15 := by decide +kernel
theorem e_X2_breakOf_15 : decode cX2_breakOf 15 = .ok (.if_icmp .ge 59, 3) ∧ 15 + 3 = 18 ∧ ((15 : Nat) : Int) + (59) = ((74 : Nat) : Int) := by decide +kernel
theorem e_X2_breakOf_18 : decode cX2_breakOf 18 = .ok (.aload_n 0, 1) ∧ 18 + 1 = 19 := by decide +kernel
theorem e_X2_breakOf_19 : decode cX2_breakOf 19 = .ok (.getfield 30, 3) ∧ 19 + 3 = 22 := by decide +kernel
theorem e_X2_breakOf_22 : decode cX2_breakOf 22 = .ok (.iload_n 2, 1) ∧ 22 + 1 = 23 := by decide +kernel
theorem e_X2_breakOf_23 : decode cX2_breakOf 23 = .ok (.invokestatic 102, 3) ∧ 23 + 3 = 26 := by decide +kernel
theorem e_X2_breakOf_26 : decode cX2_breakOf 26 = .ok (.istore_n 3, 1) ∧ 26 + 1 = 27 := by decide +kernel
theorem e_X2_breakOf_27 : decode cX2_breakOf 27 = .ok (.aload_n 0, 1) ∧ 27 + 1 = 28 := by decide +kernel
theorem e_X2_breakOf_28 : decode cX2_breakOf 28 = .ok (.getfield 27, 3) ∧ 28 + 3 = 31 := by decide +kernel
theorem e_X2_breakOf_31 : decode cX2_breakOf 31 = .ok (.iload_n 3, 1) ∧ 31 + 1 = 32 := by decide +kernel
theorem e_X2_breakOf_32 : decode cX2_breakOf 32 = .ok (.invokevirtual 134, 3) ∧ 32 + 3 = 35 := by decide +kernel
theorem e_X2_breakOf_35 : decode cX2_breakOf 35 = .ok (.ifCond .ne 5, 3) ∧ 35 + 3 = 38 ∧ ((35 : Nat) : Int) + (5) = ((40 : Nat) : Int) := by decide +kernel
theorem e_X2_breakOf_38 : decode cX2_breakOf 38 = .ok (.iload_n 2, 1) ∧ 38 + 1 = 39 := by decide +kernel
theorem e_X2_breakOf_39 : decode cX2_breakOf 39 = .ok (.ireturn, 1) := by decide +kernel
theorem e_X2_breakOf_40 : decode cX2_breakOf 40 = .ok (.aload_n 0, 1) ∧ 40 + 1 = 41 := by decide +kernel
theorem e_X2_breakOf_41 : decode cX2_breakOf 41 = .ok (.getfield 27, 3) ∧ 41 + 3 = 44 := by decide +kernel
theorem e_X2_breakOf_44 : decode cX2_breakOf 44 = .ok (.iload_n 3, 1) ∧ 44 + 1 = 45 := by decide +kernel
theorem e_X2_breakOf_45 : decode cX2_breakOf 45 = .ok (.invokevirtual 140, 3) ∧ 45 + 3 = 48 := by decide +kernel
theorem e_X2_breakOf_48 : decode cX2_breakOf 48 = .ok (.pop, 1) ∧ 48 + 1 = 49 := by decide +kernel
theorem e_X2_breakOf_49 : decode cX2_breakOf 49 = .ok (.aload_n 0, 1) ∧ 49 + 1 = 50 := by decide +kernel
theorem e_X2_breakOf_50 : decode cX2_breakOf 50 = .ok (.getfield 27, 3) ∧ 50 + 3 = 53 := by decide +kernel
theorem e_X2_breakOf_53 : decode cX2_breakOf 53 = .ok (.getfield 86, 3) ∧ 53 + 3 = 56 := by decide +kernel
theorem e_X2_breakOf_56 : decode cX2_breakOf 56 = .ok (.aload_n 0, 1) ∧ 56 + 1 = 57 := by decide +kernel
theorem e_X2_breakOf_57 : decode cX2_breakOf 57 = .ok (.getfield 23, 3) ∧ 57 + 3 = 60 := by decide +kernel
theorem e_X2_breakOf_60 : decode cX2_breakOf 60 = .ok (.getfield 86, 3) ∧ 60 + 3 = 63 := by decide +kernel
theorem e_X2_breakOf_63 : decode cX2_breakOf 63 = .ok (.if_icmp .eq 5, 3) ∧ 63 + 3 = 66 ∧ ((63 : Nat) : Int) + (5) = ((68 : Nat) : Int) := by decide +kernel
theorem e_X2_breakOf_66 : decode cX2_breakOf 66 = .ok (.iload_n 2, 1) ∧ 66 + 1 = 67 := by decide +kernel
theorem e_X2_breakOf_67 : decode cX2_breakOf 67 = .ok (.ireturn, 1) := by decide +kernel
theorem e_X2_breakOf_68 : decode cX2_breakOf 68 = .ok (.iinc 2 1, 3) ∧ 68 + 3 = 71 := by decide +kernel
theorem e_X2_breakOf_71 : decode cX2_breakOf 71 = .ok (.goto (-58), 3) ∧ 71 + 3 = 74 ∧ ((71 : Nat) : Int) + (-58) = ((13 : Nat) : Int) := by decide +kernel
theorem e_X2_breakOf_74 : decode cX2_breakOf 74 = .ok (.bipush (-9), 2) ∧ 74 + 2 = 76 := by decide +kernel
theorem e_X2_breakOf_76 : decode cX2_breakOf 76 = .ok (.ireturn, 1) := by decide +kernel
theorem e_X2_bestCode_0 : decode cX2_bestCode 0 = .ok (.iconst (-1), 1) ∧ 0 + 1 = 1 := by decide +kernel
theorem e_X2_bestCode_1 : decode cX2_bestCode 1 = .ok (.istore_n 2, 1) ∧ 1 + 1 = 2 := by decide +kernel
theorem e_X2_bestCode_2 : decode cX2_bestCode 2 = .ok (.bipush (-9), 2) ∧ 2 + 2 = 4 := by decide +kernel
theorem e_X2_bestCode_4 : decode cX2_bestCode 4 = .ok (.istore_n 3, 1) ∧ 4 + 1 = 5 := by decide +kernel
theorem e_X2_bestCode_5 : decode cX2_bestCode 5 = .ok (.iconst 0, 1) ∧ 5 + 1 = 6 := by decide +kernel
theorem e_X2_bestCode_6 : decode cX2_bestCode 6 = .ok (.istore 4, 2) ∧ 6 + 2 = 8 := by decide +kernel
theorem e_X2_bestCode_8 : decode cX2_bestCode 8 = .ok (.iload 4, 2) ∧ 8 + 2 = 10 := by decide +kernel
theorem e_X2_bestCode_10 : decode cX2_bestCode 10 = .ok (.iconst 1, 1) ∧ 10 + 1 = 11 := by decide +kernel
theorem e_X2_bestCode_11 : decode cX2_bestCode 11 = .ok (.iconst 2, 1) ∧ 11 + 1 = 12 := by decide +kernel
theorem e_X2_bestCode_12 : decode cX2_bestCode 12 = .ok (.iload_n 1, 1) ∧ 12 + 1 = 13 := by decide +kernel
theorem e_X2_bestCode_13 : decode cX2_bestCode 13 = .ok (.imul, 1) ∧ 13 + 1 = 14 := by decide +kernel
theorem e_X2_bestCode_14 : decode cX2_bestCode 14 = .ok (.ishl, 1) ∧ 14 + 1 = 15 := by decide +kernel
theorem e_X2_bestCode_15 : decode cX2_bestCode 15 = .ok (.if_icmp .ge 48, 3) ∧ 15 + 3 = 18 ∧ ((15 : Nat) : Int) + (48) = ((63 : Nat) : Int) := by decide +kernel
theorem e_X2_bestCode_18 : decode cX2_bestCode 18 = .ok (.aload_n 0, 1) ∧ 18 + 1 = 19 := by decide +kernel
theorem e_X2_bestCode_19 : decode cX2_bestCode 19 = .ok (.iload_n 1, 1) ∧ 19 + 1 = 20 := by decide +kernel
theorem e_X2_bestCode_20 : decode cX2_bestCode 20 = .ok (.iload 4, 2) ∧ 20 + 2 = 22 := by decide +kernel
theorem e_X2_bestCode_22 : decode cX2_bestCode 22 = .ok (.invokevirtual 171, 3) ∧ 22 + 3 = 25 := by decide +kernel
theorem e_X2_bestCode_25 : decode cX2_bestCode 25 = .ok (.aload_n 0, 1) ∧ 25 + 1 = 26 := by decide +kernel
theorem e_X2_bestCode_26 : decode cX2_bestCode 26 = .ok (.iload_n 1, 1) ∧ 26 + 1 = 27 := by decide +kernel
theorem e_X2_bestCode_27 : decode cX2_bestCode 27 = .ok (.invokevirtual 165, 3) ∧ 27 + 3 = 30 := by decide +kernel
theorem e_X2_bestCode_30 : decode cX2_bestCode 30 = .ok (.bipush (-9), 2) ∧ 30 + 2 = 32 := by decide +kernel
theorem e_X2_bestCode_32 : decode cX2_bestCode 32 = .ok (.if_icmp .ne 25, 3) ∧ 32 + 3 = 35 ∧ ((32 : Nat) : Int) + (25) = ((57 : Nat) : Int) := by decide +kernel
theorem e_X2_bestCode_35 : decode cX2_bestCode 35 = .ok (.aload_n 0, 1) ∧ 35 + 1 = 36 := by decide +kernel
theorem e_X2_bestCode_36 : decode cX2_bestCode 36 = .ok (.getfield 27, 3) ∧ 36 + 3 = 39 := by decide +kernel
theorem e_X2_bestCode_39 : decode cX2_bestCode 39 = .ok (.getfield 80, 3) ∧ 39 + 3 = 42 := by decide +kernel
theorem e_X2_bestCode_42 : decode cX2_bestCode 42 = .ok (.iload_n 2, 1) ∧ 42 + 1 = 43 := by decide +kernel
theorem e_X2_bestCode_43 : decode cX2_bestCode 43 = .ok (.if_icmp .le 14, 3) ∧ 43 + 3 = 46 ∧ ((43 : Nat) : Int) + (14) = ((57 : Nat) : Int) := by decide +kernel
theorem e_X2_bestCode_46 : decode cX2_bestCode 46 = .ok (.aload_n 0, 1) ∧ 46 + 1 = 47 := by decide +kernel
theorem e_X2_bestCode_47 : decode cX2_bestCode 47 = .ok (.getfield 27, 3) ∧ 47 + 3 = 50 := by decide +kernel
theorem e_X2_bestCode_50 : decode cX2_bestCode 50 = .ok (.getfield 80, 3) ∧ 50 + 3 = 53 := by decide +kernel
theorem e_X2_bestCode_53 : decode cX2_bestCode 53 = .ok (.istore_n 2, 1) ∧ 53 + 1 = 54 := by decide +kernel
theorem e_X2_bestCode_54 : decode cX2_bestCode 54 = .ok (.iload 4, 2) ∧ 54 + 2 = 56 := by decide +kernel
theorem e_X2_bestCode_56 : decode cX2_bestCode 56 = .ok (.istore_n 3, 1) ∧ 56 + 1 = 57 := by decide +kernel
theorem e_X2_bestCode_57 : decode cX2_bestCode 57 = .ok (.iinc 4 1, 3) ∧ 57 + 3 = 60 := by decide +kernel
theorem e_X2_bestCode_60 : decode cX2_bestCode 60 = .ok (.goto (-52), 3) ∧ 60 + 3 = 63 ∧ ((60 : Nat) : Int) + (-52) = ((8 : Nat) : Int) := by decide +kernel
theorem e_X2_bestCode_63 : decode cX2_bestCode 63 = .ok (.iload_n 3, 1) ∧ 63 + 1 = 64 := by decide +kernel
theorem e_X2_bestCode_64 : decode cX2_bestCode 64 = .ok (.ireturn, 1) := by decide +kernel
theorem e_X2_setSong_0 : decode cX2_setSong 0 = .ok (.iconst 0, 1) ∧ 0 + 1 = 1 := by decide +kernel
theorem e_X2_setSong_1 : decode cX2_setSong 1 = .ok (.istore_n 3, 1) ∧ 1 + 1 = 2 := by decide +kernel
theorem e_X2_setSong_2 : decode cX2_setSong 2 = .ok (.iload_n 3, 1) ∧ 2 + 1 = 3 := by decide +kernel
theorem e_X2_setSong_3 : decode cX2_setSong 3 = .ok (.iload_n 1, 1) ∧ 3 + 1 = 4 := by decide +kernel
theorem e_X2_setSong_4 : decode cX2_setSong 4 = .ok (.if_icmp .ge 23, 3) ∧ 4 + 3 = 7 ∧ ((4 : Nat) : Int) + (23) = ((27 : Nat) : Int) := by decide +kernel
theorem e_X2_setSong_7 : decode cX2_setSong 7 = .ok (.aload_n 0, 1) ∧ 7 + 1 = 8 := by decide +kernel
theorem e_X2_setSong_8 : decode cX2_setSong 8 = .ok (.getfield 30, 3) ∧ 8 + 3 = 11 := by decide +kernel
theorem e_X2_setSong_11 : decode cX2_setSong 11 = .ok (.iload_n 3, 1) ∧ 11 + 1 = 12 := by decide +kernel
theorem e_X2_setSong_12 : decode cX2_setSong 12 = .ok (.iload_n 1, 1) ∧ 12 + 1 = 13 := by decide +kernel
theorem e_X2_setSong_13 : decode cX2_setSong 13 = .ok (.iload_n 2, 1) ∧ 13 + 1 = 14 := by decide +kernel
theorem e_X2_setSong_14 : decode cX2_setSong 14 = .ok (.iload_n 3, 1) ∧ 14 + 1 = 15 := by decide +kernel
theorem e_X2_setSong_15 : decode cX2_setSong 15 = .ok (.invokestatic 175, 3) ∧ 15 + 3 = 18 := by decide +kernel
theorem e_X2_setSong_18 : decode cX2_setSong 18 = .ok (.invokestatic 50, 3) ∧ 18 + 3 = 21 := by decide +kernel
theorem e_X2_setSong_21 : decode cX2_setSong 21 = .ok (.iinc 3 1, 3) ∧ 21 + 3 = 24 := by decide +kernel
theorem e_X2_setSong_24 : decode cX2_setSong 24 = .ok (.goto (-22), 3) ∧ 24 + 3 = 27 ∧ ((24 : Nat) : Int) + (-22) = ((2 : Nat) : Int) := by decide +kernel
theorem e_X2_setSong_27 : decode cX2_setSong 27 = .ok (.return_, 1) := by decide +kernel
theorem e_X2_figureOf_0 : decode cX2_figureOf 0 = .ok (.iload_n 1, 1) ∧ 0 + 1 = 1 := by decide +kernel
theorem e_X2_figureOf_1 : decode cX2_figureOf 1 = .ok (.iconst 2, 1) ∧ 1 + 1 = 2 := by decide +kernel
theorem e_X2_figureOf_2 : decode cX2_figureOf 2 = .ok (.iload_n 0, 1) ∧ 2 + 1 = 3 := by decide +kernel
theorem e_X2_figureOf_3 : decode cX2_figureOf 3 = .ok (.iconst 1, 1) ∧ 3 + 1 = 4 := by decide +kernel
theorem e_X2_figureOf_4 : decode cX2_figureOf 4 = .ok (.isub, 1) ∧ 4 + 1 = 5 := by decide +kernel
theorem e_X2_figureOf_5 : decode cX2_figureOf 5 = .ok (.iload_n 2, 1) ∧ 5 + 1 = 6 := by decide +kernel
theorem e_X2_figureOf_6 : decode cX2_figureOf 6 = .ok (.isub, 1) ∧ 6 + 1 = 7 := by decide +kernel
theorem e_X2_figureOf_7 : decode cX2_figureOf 7 = .ok (.imul, 1) ∧ 7 + 1 = 8 := by decide +kernel
theorem e_X2_figureOf_8 : decode cX2_figureOf 8 = .ok (.ishr, 1) ∧ 8 + 1 = 9 := by decide +kernel
theorem e_X2_figureOf_9 : decode cX2_figureOf 9 = .ok (.iconst 3, 1) ∧ 9 + 1 = 10 := by decide +kernel
theorem e_X2_figureOf_10 : decode cX2_figureOf 10 = .ok (.iand, 1) ∧ 10 + 1 = 11 := by decide +kernel
theorem e_X2_figureOf_11 : decode cX2_figureOf 11 = .ok (.ireturn, 1) := by decide +kernel
theorem e_X2_isSeenBy_0 : decode cX2_isSeenBy 0 = .ok (.aload_n 0, 1) ∧ 0 + 1 = 1 := by decide +kernel
theorem e_X2_isSeenBy_1 : decode cX2_isSeenBy 1 = .ok (.getfield 27, 3) ∧ 1 + 3 = 4 := by decide +kernel
theorem e_X2_isSeenBy_4 : decode cX2_isSeenBy 4 = .ok (.aload_n 0, 1) ∧ 4 + 1 = 5 := by decide +kernel
theorem e_X2_isSeenBy_5 : decode cX2_isSeenBy 5 = .ok (.getfield 23, 3) ∧ 5 + 3 = 8 := by decide +kernel
theorem e_X2_isSeenBy_8 : decode cX2_isSeenBy 8 = .ok (.invokevirtual 61, 3) ∧ 8 + 3 = 11 := by decide +kernel
theorem e_X2_isSeenBy_11 : decode cX2_isSeenBy 11 = .ok (.aload_n 0, 1) ∧ 11 + 1 = 12 := by decide +kernel
theorem e_X2_isSeenBy_12 : decode cX2_isSeenBy 12 = .ok (.getfield 27, 3) ∧ 12 + 3 = 15 := by decide +kernel
theorem e_X2_isSeenBy_15 : decode cX2_isSeenBy 15 = .ok (.iload_n 1, 1) ∧ 15 + 1 = 16 := by decide +kernel
theorem e_X2_isSeenBy_16 : decode cX2_isSeenBy 16 = .ok (.invokevirtual 186, 3) ∧ 16 + 3 = 19 := by decide +kernel
theorem e_X2_isSeenBy_19 : decode cX2_isSeenBy 19 = .ok (.iconst 0, 1) ∧ 19 + 1 = 20 := by decide +kernel
theorem e_X2_isSeenBy_20 : decode cX2_isSeenBy 20 = .ok (.istore_n 2, 1) ∧ 20 + 1 = 21 := by decide +kernel
theorem e_X2_isSeenBy_21 : decode cX2_isSeenBy 21 = .ok (.iload_n 2, 1) ∧ 21 + 1 = 22 := by decide +kernel
theorem e_X2_isSeenBy_22 : decode cX2_isSeenBy 22 = .ok (.aload_n 0, 1) ∧ 22 + 1 = 23 := by decide +kernel
theorem e_X2_isSeenBy_23 : decode cX2_isSeenBy 23 = .ok (.getfield 92, 3) ∧ 23 + 3 = 26 := by decide +kernel
theorem e_X2_isSeenBy_26 : decode cX2_isSeenBy 26 = .ok (.if_icmp .ge 62, 3) ∧ 26 + 3 = 29 ∧ ((26 : Nat) : Int) + (62) = ((88 : Nat) : Int) := by decide +kernel
theorem e_X2_isSeenBy_29 : decode cX2_isSeenBy 29 = .ok (.aload_n 0, 1) ∧ 29 + 1 = 30 := by decide +kernel
theorem e_X2_isSeenBy_30 : decode cX2_isSeenBy 30 = .ok (.getfield 40, 3) ∧ 30 + 3 = 33 := by decide +kernel
theorem e_X2_isSeenBy_33 : decode cX2_isSeenBy 33 = .ok (.iload_n 2, 1) ∧ 33 + 1 = 34 := by decide +kernel
theorem e_X2_isSeenBy_34 : decode cX2_isSeenBy 34 = .ok (.invokestatic 102, 3) ∧ 34 + 3 = 37 := by decide +kernel
theorem e_X2_isSeenBy_37 : decode cX2_isSeenBy 37 = .ok (.istore_n 3, 1) ∧ 37 + 1 = 38 := by decide +kernel
theorem e_X2_isSeenBy_38 : decode cX2_isSeenBy 38 = .ok (.aload_n 0, 1) ∧ 38 + 1 = 39 := by decide +kernel
theorem e_X2_isSeenBy_39 : decode cX2_isSeenBy 39 = .ok (.getfield 27, 3) ∧ 39 + 3 = 42 := by decide +kernel
theorem e_X2_isSeenBy_42 : decode cX2_isSeenBy 42 = .ok (.iload_n 3, 1) ∧ 42 + 1 = 43 := by decide +kernel
theorem e_X2_isSeenBy_43 : decode cX2_isSeenBy 43 = .ok (.invokevirtual 115, 3) ∧ 43 + 3 = 46 := by decide +kernel
theorem e_X2_isSeenBy_46 : decode cX2_isSeenBy 46 = .ok (.ifCond .eq 8, 3) ∧ 46 + 3 = 49 ∧ ((46 : Nat) : Int) + (8) = ((54 : Nat) : Int) := by decide +kernel
theorem e_X2_isSeenBy_49 : decode cX2_isSeenBy 49 = .ok (.bipush 100, 2) ∧ 49 + 2 = 51 := by decide +kernel
theorem e_X2_isSeenBy_51 : decode cX2_isSeenBy 51 = .ok (.goto 14, 3) ∧ 51 + 3 = 54 ∧ ((51 : Nat) : Int) + (14) = ((65 : Nat) : Int) := by decide +kernel
theorem e_X2_isSeenBy_54 : decode cX2_isSeenBy 54 = .ok (.aload_n 0, 1) ∧ 54 + 1 = 55 := by decide +kernel
theorem e_X2_isSeenBy_55 : decode cX2_isSeenBy 55 = .ok (.getfield 27, 3) ∧ 55 + 3 = 58 := by decide +kernel
theorem e_X2_isSeenBy_58 : decode cX2_isSeenBy 58 = .ok (.getfield 106, 3) ∧ 58 + 3 = 61 := by decide +kernel
theorem e_X2_isSeenBy_61 : decode cX2_isSeenBy 61 = .ok (.iload_n 3, 1) ∧ 61 + 1 = 62 := by decide +kernel
theorem e_X2_isSeenBy_62 : decode cX2_isSeenBy 62 = .ok (.invokestatic 102, 3) ∧ 62 + 3 = 65 := by decide +kernel
theorem e_X2_isSeenBy_65 : decode cX2_isSeenBy 65 = .ok (.istore 4, 2) ∧ 65 + 2 = 67 := by decide +kernel
theorem e_X2_isSeenBy_67 : decode cX2_isSeenBy 67 = .ok (.iload 4, 2) ∧ 67 + 2 = 69 := by decide +kernel
theorem e_X2_isSeenBy_69 : decode cX2_isSeenBy 69 = .ok (.aload_n 0, 1) ∧ 69 + 1 = 70 := by decide +kernel
theorem e_X2_isSeenBy_70 : decode cX2_isSeenBy 70 = .ok (.getfield 43, 3) ∧ 70 + 3 = 73 := by decide +kernel
theorem e_X2_isSeenBy_73 : decode cX2_isSeenBy 73 = .ok (.iload_n 2, 1) ∧ 73 + 1 = 74 := by decide +kernel
theorem e_X2_isSeenBy_74 : decode cX2_isSeenBy 74 = .ok (.invokestatic 102, 3) ∧ 74 + 3 = 77 := by decide +kernel
theorem e_X2_isSeenBy_77 : decode cX2_isSeenBy 77 = .ok (.if_icmp .eq 5, 3) ∧ 77 + 3 = 80 ∧ ((77 : Nat) : Int) + (5) = ((82 : Nat) : Int) := by decide +kernel
theorem e_X2_isSeenBy_80 : decode cX2_isSeenBy 80 = .ok (.iconst 0, 1) ∧ 80 + 1 = 81 := by decide +kernel
theorem e_X2_isSeenBy_81 : decode cX2_isSeenBy 81 = .ok (.ireturn, 1) := by decide +kernel
theorem e_X2_isSeenBy_82 : decode cX2_isSeenBy 82 = .ok (.iinc 2 1, 3) ∧ 82 + 3 = 85 := by decide +kernel
theorem e_X2_isSeenBy_85 : decode cX2_isSeenBy 85 = .ok (.goto (-64), 3) ∧ 85 + 3 = 88 ∧ ((85 : Nat) : Int) + (-64) = ((21 : Nat) : Int) := by decide +kernel
theorem e_X2_isSeenBy_88 : decode cX2_isSeenBy 88 = .ok (.iconst 1, 1) ∧ 88 + 1 = 89 := by decide +kernel
theorem e_X2_isSeenBy_89 : decode cX2_isSeenBy 89 = .ok (.ireturn, 1) := by decide +kernel
theorem e_X2_weightOf_0 : decode cX2_weightOf 0 = .ok (.iconst 1, 1) ∧ 0 + 1 = 1 := by decide +kernel
theorem e_X2_weightOf_1 : decode cX2_weightOf 1 = .ok (.istore_n 3, 1) ∧ 1 + 1 = 2 := by decide +kernel
theorem e_X2_weightOf_2 : decode cX2_weightOf 2 = .ok (.iconst 0, 1) ∧ 2 + 1 = 3 := by decide +kernel
theorem e_X2_weightOf_3 : decode cX2_weightOf 3 = .ok (.istore 4, 2) ∧ 3 + 2 = 5 := by decide +kernel
theorem e_X2_weightOf_5 : decode cX2_weightOf 5 = .ok (.iload 4, 2) ∧ 5 + 2 = 7 := by decide +kernel
theorem e_X2_weightOf_7 : decode cX2_weightOf 7 = .ok (.iconst 4, 1) ∧ 7 + 1 = 8 := by decide +kernel
theorem e_X2_weightOf_8 : decode cX2_weightOf 8 = .ok (.if_icmp .ge 38, 3) ∧ 8 + 3 = 11 ∧ ((8 : Nat) : Int) + (38) = ((46 : Nat) : Int) := by decide +kernel
theorem e_X2_weightOf_11 : decode cX2_weightOf 11 = .ok (.iload_n 1, 1) ∧ 11 + 1 = 12 := by decide +kernel
theorem e_X2_weightOf_12 : decode cX2_weightOf 12 = .ok (.iload 4, 2) ∧ 12 + 2 = 14 := by decide +kernel
theorem e_X2_weightOf_14 : decode cX2_weightOf 14 = .ok (.invokestatic 152, 3) ∧ 14 + 3 = 17 := by decide +kernel
theorem e_X2_weightOf_17 : decode cX2_weightOf 17 = .ok (.ifCond .eq 23, 3) ∧ 17 + 3 = 20 ∧ ((17 : Nat) : Int) + (23) = ((40 : Nat) : Int) := by decide +kernel
theorem e_X2_weightOf_20 : decode cX2_weightOf 20 = .ok (.iload_n 3, 1) ∧ 20 + 1 = 21 := by decide +kernel
theorem e_X2_weightOf_21 : decode cX2_weightOf 21 = .ok (.iload_n 0, 1) ∧ 21 + 1 = 22 := by decide +kernel
theorem e_X2_weightOf_22 : decode cX2_weightOf 22 = .ok (.iload 4, 2) ∧ 22 + 2 = 24 := by decide +kernel
theorem e_X2_weightOf_24 : decode cX2_weightOf 24 = .ok (.invokestatic 152, 3) ∧ 24 + 3 = 27 := by decide +kernel
theorem e_X2_weightOf_27 : decode cX2_weightOf 27 = .ok (.ifCond .eq 7, 3) ∧ 27 + 3 = 30 ∧ ((27 : Nat) : Int) + (7) = ((34 : Nat) : Int) := by decide +kernel
theorem e_X2_weightOf_30 : decode cX2_weightOf 30 = .ok (.iload_n 2, 1) ∧ 30 + 1 = 31 := by decide +kernel
theorem e_X2_weightOf_31 : decode cX2_weightOf 31 = .ok (.goto 7, 3) ∧ 31 + 3 = 34 ∧ ((31 : Nat) : Int) + (7) = ((38 : Nat) : Int) := by decide +kernel
theorem e_X2_weightOf_34 : decode cX2_weightOf 34 = .ok (.bipush 10, 2) ∧ 34 + 2 = 36 := by decide +kernel
theorem e_X2_weightOf_36 : decode cX2_weightOf 36 = .ok (.iload_n 2, 1) ∧ 36 + 1 = 37 := by decide +kernel
theorem e_X2_weightOf_37 : decode cX2_weightOf 37 = .ok (.isub, 1) ∧ 37 + 1 = 38 := by decide +kernel
theorem e_X2_weightOf_38 : decode cX2_weightOf 38 = .ok (.imul, 1) ∧ 38 + 1 = 39 := by decide +kernel
theorem e_X2_weightOf_39 : decode cX2_weightOf 39 = .ok (.istore_n 3, 1) ∧ 39 + 1 = 40 := by decide +kernel
theorem e_X2_weightOf_40 : decode cX2_weightOf 40 = .ok (.iinc 4 1, 3) ∧ 40 + 3 = 43 := by decide +kernel
theorem e_X2_weightOf_43 : decode cX2_weightOf 43 = .ok (.goto (-38), 3) ∧ 43 + 3 = 46 ∧ ((43 : Nat) : Int) + (-38) = ((5 : Nat) : Int) := by decide +kernel
theorem e_X2_weightOf_46 : decode cX2_weightOf 46 = .ok (.iload_n 3, 1) ∧ 46 + 1 = 47 := by decide +kernel
theorem e_X2_weightOf_47 : decode cX2_weightOf 47 = .ok (.ireturn, 1) := by decide +kernel
theorem e_X2_commonDivisor_0 : decode cX2_commonDivisor 0 = .ok (.iload_n 0, 1) ∧ 0 + 1 = 1 := by decide +kernel
theorem e_X2_commonDivisor_1 : decode cX2_commonDivisor 1 = .ok (.istore_n 2, 1) ∧ 1 + 1 = 2 := by decide +kernel
theorem e_X2_commonDivisor_2 : decode cX2_commonDivisor 2 = .ok (.iload_n 1, 1) ∧ 2 + 1 = 3 := by decide +kernel
theorem e_X2_commonDivisor_3 : decode cX2_commonDivisor 3 = .ok (.istore_n 3, 1) ∧ 3 + 1 = 4 := by decide +kernel
theorem e_X2_commonDivisor_4 : decode cX2_commonDivisor 4 = .ok (.iconst 0, 1) ∧ 4 + 1 = 5 := by decide +kernel
theorem e_X2_commonDivisor_5 : decode cX2_commonDivisor 5 = .ok (.istore 4, 2) ∧ 5 + 2 = 7 := by decide +kernel
theorem e_X2_commonDivisor_7 : decode cX2_commonDivisor 7 = .ok (.iload 4, 2) ∧ 7 + 2 = 9 := by decide +kernel
theorem e_X2_commonDivisor_9 : decode cX2_commonDivisor 9 = .ok (.bipush 64, 2) ∧ 9 + 2 = 11 := by decide +kernel
theorem e_X2_commonDivisor_11 : decode cX2_commonDivisor 11 = .ok (.if_icmp .ge 23, 3) ∧ 11 + 3 = 14 ∧ ((11 : Nat) : Int) + (23) = ((34 : Nat) : Int) := by decide +kernel
theorem e_X2_commonDivisor_14 : decode cX2_commonDivisor 14 = .ok (.iload_n 3, 1) ∧ 14 + 1 = 15 := by decide +kernel
theorem e_X2_commonDivisor_15 : decode cX2_commonDivisor 15 = .ok (.ifCond .eq 19, 3) ∧ 15 + 3 = 18 ∧ ((15 : Nat) : Int) + (19) = ((34 : Nat) : Int) := by decide +kernel
theorem e_X2_commonDivisor_18 : decode cX2_commonDivisor 18 = .ok (.iload_n 2, 1) ∧ 18 + 1 = 19 := by decide +kernel
theorem e_X2_commonDivisor_19 : decode cX2_commonDivisor 19 = .ok (.iload_n 3, 1) ∧ 19 + 1 = 20 := by decide +kernel
theorem e_X2_commonDivisor_20 : decode cX2_commonDivisor 20 = .ok (.irem, 1) ∧ 20 + 1 = 21 := by decide +kernel
theorem e_X2_commonDivisor_21 : decode cX2_commonDivisor 21 = .ok (.istore 5, 2) ∧ 21 + 2 = 23 := by decide +kernel
theorem e_X2_commonDivisor_23 : decode cX2_commonDivisor 23 = .ok (.iload_n 3, 1) ∧ 23 + 1 = 24 := by decide +kernel
theorem e_X2_commonDivisor_24 : decode cX2_commonDivisor 24 = .ok (.istore_n 2, 1) ∧ 24 + 1 = 25 := by decide +kernel
theorem e_X2_commonDivisor_25 : decode cX2_commonDivisor 25 = .ok (.iload 5, 2) ∧ 25 + 2 = 27 := by decide +kernel
theorem e_X2_commonDivisor_27 : decode cX2_commonDivisor 27 = .ok (.istore_n 3, 1) ∧ 27 + 1 = 28 := by decide +kernel
theorem e_X2_commonDivisor_28 : decode cX2_commonDivisor 28 = .ok (.iinc 4 1, 3) ∧ 28 + 3 = 31 := by decide +kernel
theorem e_X2_commonDivisor_31 : decode cX2_commonDivisor 31 = .ok (.goto (-24), 3) ∧ 31 + 3 = 34 ∧ ((31 : Nat) : Int) + (-24) = ((7 : Nat) : Int) := by decide +kernel
theorem e_X2_commonDivisor_34 : decode cX2_commonDivisor 34 = .ok (.iload_n 2, 1) ∧ 34 + 1 = 35 := by decide +kernel
theorem e_X2_commonDivisor_35 : decode cX2_commonDivisor 35 = .ok (.ireturn, 1) := by decide +kernel
theorem e_X2_nextTenth_0 : decode cX2_nextTenth 0 = .ok (.aload_n 0, 1) ∧ 0 + 1 = 1 := by decide +kernel
theorem e_X2_nextTenth_1 : decode cX2_nextTenth 1 = .ok (.aload_n 0, 1) ∧ 1 + 1 = 2 := by decide +kernel
theorem e_X2_nextTenth_2 : decode cX2_nextTenth 2 = .ok (.getfield 198, 3) ∧ 2 + 3 = 5 := by decide +kernel
theorem e_X2_nextTenth_5 : decode cX2_nextTenth 5 = .ok (.ldc2_w 215, 3) ∧ 5 + 3 = 8 := by decide +kernel
theorem e_X2_nextTenth_8 : decode cX2_nextTenth 8 = .ok (.lmul, 1) ∧ 8 + 1 = 9 := by decide +kernel
theorem e_X2_nextTenth_9 : decode cX2_nextTenth 9 = .ok (.ldc2_w 217, 3) ∧ 9 + 3 = 12 := by decide +kernel
theorem e_X2_nextTenth_12 : decode cX2_nextTenth 12 = .ok (.ladd, 1) ∧ 12 + 1 = 13 := by decide +kernel
theorem e_X2_nextTenth_13 : decode cX2_nextTenth 13 = .ok (.putfield 198, 3) ∧ 13 + 3 = 16 := by decide +kernel
theorem e_X2_nextTenth_16 : decode cX2_nextTenth 16 = .ok (.aload_n 0, 1) ∧ 16 + 1 = 17 := by decide +kernel
theorem e_X2_nextTenth_17 : decode cX2_nextTenth 17 = .ok (.getfield 198, 3) ∧ 17 + 3 = 20 := by decide +kernel
theorem e_X2_nextTenth_20 : decode cX2_nextTenth 20 = .ok (.bipush 33, 2) ∧ 20 + 2 = 22 := by decide +kernel
theorem e_X2_nextTenth_22 : decode cX2_nextTenth 22 = .ok (.lushr, 1) ∧ 22 + 1 = 23 := by decide +kernel
theorem e_X2_nextTenth_23 : decode cX2_nextTenth 23 = .ok (.ldc2_w 219, 3) ∧ 23 + 3 = 26 := by decide +kernel
theorem e_X2_nextTenth_26 : decode cX2_nextTenth 26 = .ok (.lrem, 1) ∧ 26 + 1 = 27 := by decide +kernel
theorem e_X2_nextTenth_27 : decode cX2_nextTenth 27 = .ok (.l2i, 1) ∧ 27 + 1 = 28 := by decide +kernel
theorem e_X2_nextTenth_28 : decode cX2_nextTenth 28 = .ok (.ireturn, 1) := by decide +kernel
theorem e_X3_init_0 : decode cX3_init 0 = .ok (.aload_n 0, 1) ∧ 0 + 1 = 1 := by decide +kernel
theorem e_X3_init_1 : decode cX3_init 1 = .ok (.invokespecial 1, 3) ∧ 1 + 3 = 4 := by decide +kernel
theorem e_X3_init_4 : decode cX3_init 4 = .ok (.aload_n 0, 1) ∧ 4 + 1 = 5 := by decide +kernel
theorem e_X3_init_5 : decode cX3_init 5 = .ok (.bipush 72, 2) ∧ 5 + 2 = 7 := by decide +kernel
theorem e_X3_init_7 : decode cX3_init 7 = .ok (.newarray .int, 2) ∧ 7 + 2 = 9 := by decide +kernel
theorem e_X3_init_9 : decode cX3_init 9 = .ok (.putfield 7, 3) ∧ 9 + 3 = 12 := by decide +kernel
theorem e_X3_init_12 : decode cX3_init 12 = .ok (.aload_n 0, 1) ∧ 12 + 1 = 13 := by decide +kernel
theorem e_X3_init_13 : decode cX3_init 13 = .ok (.iconst 1, 1) ∧ 13 + 1 = 14 := by decide +kernel
theorem e_X3_init_14 : decode cX3_init 14 = .ok (.putfield 13, 3) ∧ 14 + 3 = 17 := by decide +kernel
theorem e_X3_init_17 : decode cX3_init 17 = .ok (.aload_n 0, 1) ∧ 17 + 1 = 18 := by decide +kernel
theorem e_X3_init_18 : decode cX3_init 18 = .ok (.iconst 4, 1) ∧ 18 + 1 = 19 := by decide +kernel
theorem e_X3_init_19 : decode cX3_init 19 = .ok (.newarray .int, 2) ∧ 19 + 2 = 21 := by decide +kernel
theorem e_X3_init_21 : decode cX3_init 21 = .ok (.putfield 17, 3) ∧ 21 + 3 = 24 := by decide +kernel
theorem e_X3_init_24 : decode cX3_init 24 = .ok (.aload_n 0, 1) ∧ 24 + 1 = 25 := by decide +kernel
theorem e_X3_init_25 : decode cX3_init 25 = .ok (.bipush 58, 2) ∧ 25 + 2 = 27 := by decide +kernel
theorem e_X3_init_27 : decode cX3_init 27 = .ok (.newarray .int, 2) ∧ 27 + 2 = 29 := by decide +kernel
theorem e_X3_init_29 : decode cX3_init 29 = .ok (.putfield 20, 3) ∧ 29 + 3 = 32 := by decide +kernel
theorem e_X3_init_32 : decode cX3_init 32 = .ok (.aload_n 0, 1) ∧ 32 + 1 = 33 := by decide +kernel
theorem e_X3_init_33 : decode cX3_init 33 = .ok (.bipush 58, 2) ∧ 33 + 2 = 35 := by decide +kernel
theorem e_X3_init_35 : decode cX3_init 35 = .ok (.newarray .int, 2) ∧ 35 + 2 = 37 := by decide +kernel
theorem e_X3_init_37 : decode cX3_init 37 = .ok (.putfield 23, 3) ∧ 37 + 3 = 40 := by decide +kernel
theorem e_X3_init_40 : decode cX3_init 40 = .ok (.aload_n 0, 1) ∧ 40 + 1 = 41 := by decide +kernel
theorem e_X3_init_41 : decode cX3_init 41 = .ok (.iconst 4, 1) ∧ 41 + 1 = 42 := by decide +kernel
theorem e_X3_init_42 : decode cX3_init 42 = .ok (.newarray .int, 2) ∧ 42 + 2 = 44 := by decide +kernel
theorem e_X3_init_44 : decode cX3_init 44 = .ok (.putfield 26, 3) ∧ 44 + 3 = 47 := by decide +kernel
theorem e_X3_init_47 : decode cX3_init 47 = .ok (.aload_n 0, 1) ∧ 47 + 1 = 48 := by decide +kernel
theorem e_X3_init_48 : decode cX3_init 48 = .ok (.sipush 812, 3) ∧ 48 + 3 = 51 := by decide +kernel
theorem e_X3_init_51 : decode cX3_init 51 = .ok (.newarray .int, 2) ∧ 51 + 2 = 53 := by decide +kernel
theorem e_X3_init_53 : decode cX3_init 53 = .ok (.putfield 29, 3) ∧ 53 + 3 = 56 := by decide +kernel
theorem e_X3_init_56 : decode cX3_init 56 = .ok (.aload_n 0, 1) ∧ 56 + 1 = 57 := by decide +kernel
theorem e_X3_init_57 : decode cX3_init 57 = .ok (.bipush 116, 2) ∧ 57 + 2 = 59 := by decide +kernel
theorem e_X3_init_59 : decode cX3_init 59 = .ok (.newarray .int, 2) ∧ 59 + 2 = 61 := by decide +kernel
theorem e_X3_init_61 : decode cX3_init 61 = .ok (.putfield 32, 3) ∧ 61 + 3 = 64 := by decide +kernel
theorem e_X3_init_64 : decode cX3_init 64 = .ok (.aload_n 0, 1) ∧ 64 + 1 = 65 := by decide +kernel
theorem e_X3_init_65 : decode cX3_init 65 = .ok (.iconst 2, 1) ∧ 65 + 1 = 66 := by decide +kernel
theorem e_X3_init_66 : decode cX3_init 66 = .ok (.newarray .boolean, 2) ∧ 66 + 2 = 68 := by decide +kernel
theorem e_X3_init_68 : decode cX3_init 68 = .ok (.putfield 35, 3) ∧ 68 + 3 = 71 := by decide +kernel
theorem e_X3_init_71 : decode cX3_init 71 = .ok (.aload_n 0, 1) ∧ 71 + 1 = 72 := by decide +kernel
theorem e_X3_init_72 : decode cX3_init 72 = .ok (.bipush 6, 2) ∧ 72 + 2 = 74 := by decide +kernel
theorem e_X3_init_74 : decode cX3_init 74 = .ok (.newarray .int, 2) ∧ 74 + 2 = 76 := by decide +kernel
theorem e_X3_init_76 : decode cX3_init 76 = .ok (.putfield 39, 3) ∧ 76 + 3 = 79 := by decide +kernel
theorem e_X3_init_79 : decode cX3_init 79 = .ok (.aload_n 0, 1) ∧ 79 + 1 = 80 := by decide +kernel
theorem e_X3_init_80 : decode cX3_init 80 = .ok (.bipush 6, 2) ∧ 80 + 2 = 82 := by decide +kernel
theorem e_X3_init_82 : decode cX3_init 82 = .ok (.newarray .int, 2) ∧ 82 + 2 = 84 := by decide +kernel
theorem e_X3_init_84 : decode cX3_init 84 = .ok (.putfield 42, 3) ∧ 84 + 3 = 87 := by decide +kernel
theorem e_X3_init_87 : decode cX3_init 87 = .ok (.aload_n 0, 1) ∧ 87 + 1 = 88 := by decide +kernel
theorem e_X3_init_88 : decode cX3_init 88 = .ok (.bipush 58, 2) ∧ 88 + 2 = 90 := by decide +kernel
theorem e_X3_init_90 : decode cX3_init 90 = .ok (.newarray .int, 2) ∧ 90 + 2 = 92 := by decide +kernel
theorem e_X3_init_92 : decode cX3_init 92 = .ok (.putfield 45, 3) ∧ 92 + 3 = 95 := by decide +kernel
theorem e_X3_init_95 : decode cX3_init 95 = .ok (.return_, 1) := by decide +kernel
theorem e_X3_in_0 : decode cX3_in 0 = .ok (.lload_n 0, 1) ∧ 0 + 1 = 1 := by decide +kernel
theorem e_X3_in_1 : decode cX3_in 1 = .ok (.lload_n 2, 1) ∧ 1 + 1 = 2 := by decide +kernel
theorem e_X3_in_2 : decode cX3_in 2 = .ok (.lcmp, 1) ∧ 2 + 1 = 3 := by decide +kernel
theorem e_X3_in_3 : decode cX3_in 3 = .ok (.ifCond .lt 14, 3) ∧ 3 + 3 = 6 ∧ ((3 : Nat) : Int) + (14) = ((17 : Nat) : Int) := by decide +kernel
theorem e_X3_in_6 : decode cX3_in 6 = .ok (.lload_n 0, 1) ∧ 6 + 1 = 7 := by decide +kernel
theorem e_X3_in_7 : decode cX3_in 7 = .ok (.lload 4, 2) ∧ 7 + 2 = 9 := by decide +kernel
theorem e_X3_in_9 : decode cX3_in 9 = .ok (.lcmp, 1) ∧ 9 + 1 = 10 := by decide +kernel
theorem e_X3_in_10 : decode cX3_in 10 = .ok (.ifCond .gt 7, 3) ∧ 10 + 3 = 13 ∧ ((10 : Nat) : Int) + (7) = ((17 : Nat) : Int) := by decide +kernel
theorem e_X3_in_13 : decode cX3_in 13 = .ok (.iconst 1, 1) ∧ 13 + 1 = 14 := by decide +kernel
theorem e_X3_in_14 : decode cX3_in 14 = .ok (.goto 4, 3) ∧ 14 + 3 = 17 ∧ ((14 : Nat) : Int) + (4) = ((18 : Nat) : Int) := by decide +kernel
theorem e_X3_in_17 : decode cX3_in 17 = .ok (.iconst 0, 1) ∧ 17 + 1 = 18 := by decide +kernel
theorem e_X3_in_18 : decode cX3_in 18 = .ok (.ireturn, 1) := by decide +kernel
theorem e_X3_has_0 : decode cX3_has 0 = .ok (.iload_n 0, 1) ∧ 0 + 1 = 1 := by decide +kernel
theorem e_X3_has_1 : decode cX3_has 1 = .ok (.iload_n 1, 1) ∧ 1 + 1 = 2 := by decide +kernel
theorem e_X3_has_2 : decode cX3_has 2 = .ok (.ishr, 1) ∧ 2 + 1 = 3 := by decide +kernel
theorem e_X3_has_3 : decode cX3_has 3 = .ok (.iconst 1, 1) ∧ 3 + 1 = 4 := by decide +kernel
theorem e_X3_has_4 : decode cX3_has 4 = .ok (.iand, 1) ∧ 4 + 1 = 5 := by decide +kernel
theorem e_X3_has_5 : decode cX3_has 5 = .ok (.iconst 1, 1) ∧ 5 + 1 = 6 := by decide +kernel
theorem e_X3_has_6 : decode cX3_has 6 = .ok (.if_icmp .ne 7, 3) ∧ 6 + 3 = 9 ∧ ((6 : Nat) : Int) + (7) = ((13 : Nat) : Int) := by decide +kernel
theorem e_X3_has_9 : decode cX3_has 9 = .ok (.iconst 1, 1) ∧ 9 + 1 = 10 := by decide +kernel
theorem e_X3_has_10 : decode cX3_has 10 = .ok (.goto 4, 3) ∧ 10 + 3 = 13 ∧ ((10 : Nat) : Int) + (4) = ((14 : Nat) : Int) := by decide +kernel
theorem e_X3_has_13 : decode cX3_has 13 = .ok (.iconst 0, 1) ∧ 13 + 1 = 14 := by decide +kernel
theorem e_X3_has_14 : decode cX3_has 14 = .ok (.ireturn, 1) := by decide +kernel
theorem e_X3_noMonk_0 : decode cX3_noMonk 0 = .ok (.iload_n 1, 1) ∧ 0 + 1 = 1 := by decide +kernel
theorem e_X3_noMonk_1 : decode cX3_noMonk 1 = .ok (.i2l, 1) ∧ 1 + 1 = 2 := by decide +kernel
theorem e_X3_noMonk_2 : decode cX3_noMonk 2 = .ok (.lconst 0, 1) ∧ 2 + 1 = 3 := by decide +kernel
theorem e_X3_noMonk_3 : decode cX3_noMonk 3 = .ok (.aload_n 0, 1) ∧ 3 + 1 = 4 := by decide +kernel
theorem e_X3_noMonk_4 : decode cX3_noMonk 4 = .ok (.getfield 51, 3) ∧ 4 + 3 = 7 := by decide +kernel
theorem e_X3_noMonk_7 : decode cX3_noMonk 7 = .ok (.iconst 1, 1) ∧ 7 + 1 = 8 := by decide +kernel
theorem e_X3_noMonk_8 : decode cX3_noMonk 8 = .ok (.isub, 1) ∧ 8 + 1 = 9 := by decide +kernel
theorem e_X3_noMonk_9 : decode cX3_noMonk 9 = .ok (.i2l, 1) ∧ 9 + 1 = 10 := by decide +kernel
theorem e_X3_noMonk_10 : decode cX3_noMonk 10 = .ok (.invokestatic 54, 3) ∧ 10 + 3 = 13 := by decide +kernel
theorem e_X3_noMonk_13 : decode cX3_noMonk 13 = .ok (.ifCond .ne 7, 3) ∧ 13 + 3 = 16 ∧ ((13 : Nat) : Int) + (7) = ((20 : Nat) : Int) := by decide +kernel
theorem e_X3_noMonk_16 : decode cX3_noMonk 16 = .ok (.iconst 1, 1) ∧ 16 + 1 = 17 := by decide +kernel
theorem e_X3_noMonk_17 : decode cX3_noMonk 17 = .ok (.goto 4, 3) ∧ 17 + 3 = 20 ∧ ((17 : Nat) : Int) + (4) = ((21 : Nat) : Int) := by decide +kernel
theorem e_X3_noMonk_20 : decode cX3_noMonk 20 = .ok (.iconst 0, 1) ∧ 20 + 1 = 21 := by decide +kernel
theorem e_X3_noMonk_21 : decode cX3_noMonk 21 = .ok (.ireturn, 1) := by decide +kernel
theorem e_X3_noCell_0 : decode cX3_noCell 0 = .ok (.iload_n 0, 1) ∧ 0 + 1 = 1 := by decide +kernel
theorem e_X3_noCell_1 : decode cX3_noCell 1 = .ok (.i2l, 1) ∧ 1 + 1 = 2 := by decide +kernel
theorem e_X3_noCell_2 : decode cX3_noCell 2 = .ok (.lconst 0, 1) ∧ 2 + 1 = 3 := by decide +kernel
theorem e_X3_noCell_3 : decode cX3_noCell 3 = .ok (.ldc2_w 58, 3) ∧ 3 + 3 = 6 := by decide +kernel
theorem e_X3_noCell_6 : decode cX3_noCell 6 = .ok (.invokestatic 54, 3) ∧ 6 + 3 = 9 := by decide +kernel
theorem e_X3_noCell_9 : decode cX3_noCell 9 = .ok (.ifCond .ne 7, 3) ∧ 9 + 3 = 12 ∧ ((9 : Nat) : Int) + (7) = ((16 : Nat) : Int) := by decide +kernel
theorem e_X3_noCell_12 : decode cX3_noCell 12 = .ok (.iconst 1, 1) ∧ 12 + 1 = 13 := by decide +kernel
theorem e_X3_noCell_13 : decode cX3_noCell 13 = .ok (.goto 4, 3) ∧ 13 + 3 = 16 ∧ ((13 : Nat) : Int) + (4) = ((17 : Nat) : Int) := by decide +kernel
theorem e_X3_noCell_16 : decode cX3_noCell 16 = .ok (.iconst 0, 1) ∧ 16 + 1 = 17 := by decide +kernel
theorem e_X3_noCell_17 : decode cX3_noCell 17 = .ok (.ireturn, 1) := by decide +kernel
theorem e_X3_write_0 : decode cX3_write 0 = .ok (.aload_n 0, 1) ∧ 0 + 1 = 1 := by decide +kernel
theorem e_X3_write_1 : decode cX3_write 1 = .ok (.iconst 0, 1) ∧ 1 + 1 = 2 := by decide +kernel
theorem e_X3_write_2 : decode cX3_write 2 = .ok (.putfield 48, 3) ∧ 2 + 3 = 5 := by decide +kernel
theorem e_X3_write_5 : decode cX3_write 5 = .ok (.iload_n 1, 1) ∧ 5 + 1 = 6 := by decide +kernel
theorem e_X3_write_6 : decode cX3_write 6 = .ok (.i2l, 1) ∧ 6 + 1 = 7 := by decide +kernel
theorem e_X3_write_7 : decode cX3_write 7 = .ok (.lconst 1, 1) ∧ 7 + 1 = 8 := by decide +kernel
theorem e_X3_write_8 : decode cX3_write 8 = .ok (.ldc2_w 60, 3) ∧ 8 + 3 = 11 := by decide +kernel
theorem e_X3_write_11 : decode cX3_write 11 = .ok (.invokestatic 54, 3) ∧ 11 + 3 = 14 := by decide +kernel
theorem e_X3_write_14 : decode cX3_write 14 = .ok (.ifCond .ne 6, 3) ∧ 14 + 3 = 17 ∧ ((14 : Nat) : Int) + (6) = ((20 : Nat) : Int) := by decide +kernel
theorem e_X3_write_17 : decode cX3_write 17 = .ok (.bipush (-2), 2) ∧ 17 + 2 = 19 := by decide +kernel
theorem e_X3_write_19 : decode cX3_write 19 = .ok (.ireturn, 1) := by decide +kernel
theorem e_X3_write_20 : decode cX3_write 20 = .ok (.aload_n 0, 1) ∧ 20 + 1 = 21 := by decide +kernel
theorem e_X3_write_21 : decode cX3_write 21 = .ok (.getfield 62, 3) ∧ 21 + 3 = 24 := by decide +kernel
theorem e_X3_write_24 : decode cX3_write 24 = .ok (.iload_n 1, 1) ∧ 24 + 1 = 25 := by decide +kernel
theorem e_X3_write_25 : decode cX3_write 25 = .ok (.iadd, 1) ∧ 25 + 1 = 26 := by decide +kernel
theorem e_X3_write_26 : decode cX3_write 26 = .ok (.bipush 72, 2) ∧ 26 + 2 = 28 := by decide +kernel
theorem e_X3_write_28 : decode cX3_write 28 = .ok (.if_icmp .le 6, 3) ∧ 28 + 3 = 31 ∧ ((28 : Nat) : Int) + (6) = ((34 : Nat) : Int) := by decide +kernel
theorem e_X3_write_31 : decode cX3_write 31 = .ok (.bipush (-4), 2) ∧ 31 + 2 = 33 := by decide +kernel
theorem e_X3_write_33 : decode cX3_write 33 = .ok (.ireturn, 1) := by decide +kernel
theorem e_X3_write_34 : decode cX3_write 34 = .ok (.iload_n 1, 1) ∧ 34 + 1 = 35 := by decide +kernel
theorem e_X3_write_35 : decode cX3_write 35 = .ok (.iconst 1, 1) ∧ 35 + 1 = 36 := by decide +kernel
theorem e_X3_write_36 : decode cX3_write 36 = .ok (.isub, 1) ∧ 36 + 1 = 37 := by decide +kernel
theorem e_X3_write_37 : decode cX3_write 37 = .ok (.istore 4, 2) ∧ 37 + 2 = 39 := by decide +kernel
theorem e_X3_write_39 : decode cX3_write 39 = .ok (.iload 4, 2) ∧ 39 + 2 = 41 := by decide +kernel
theorem e_X3_write_41 : decode cX3_write 41 = .ok (.ifCond .lt 40, 3) ∧ 41 + 3 = 44 ∧ ((41 : Nat) : Int) + (40) = ((81 : Nat) : Int) := by decide +kernel
theorem e_X3_write_44 : decode cX3_write 44 = .ok (.aload_n 0, 1) ∧ 44 + 1 = 45 := by decide +kernel
theorem e_X3_write_45 : decode cX3_write 45 = .ok (.getfield 7, 3) ∧ 45 + 3 = 48 := by decide +kernel
theorem e_X3_write_48 : decode cX3_write 48 = .ok (.aload_n 0, 1) ∧ 48 + 1 = 49 := by decide +kernel
theorem e_X3_write_49 : decode cX3_write 49 = .ok (.getfield 62, 3) ∧ 49 + 3 = 52 := by decide +kernel
theorem e_X3_write_52 : decode cX3_write 52 = .ok (.lload_n 2, 1) ∧ 52 + 1 = 53 := by decide +kernel
theorem e_X3_write_53 : decode cX3_write 53 = .ok (.bipush 8, 2) ∧ 53 + 2 = 55 := by decide +kernel
theorem e_X3_write_55 : decode cX3_write 55 = .ok (.iload 4, 2) ∧ 55 + 2 = 57 := by decide +kernel
theorem e_X3_write_57 : decode cX3_write 57 = .ok (.imul, 1) ∧ 57 + 1 = 58 := by decide +kernel
theorem e_X3_write_58 : decode cX3_write 58 = .ok (.lshr, 1) ∧ 58 + 1 = 59 := by decide +kernel
theorem e_X3_write_59 : decode cX3_write 59 = .ok (.l2i, 1) ∧ 59 + 1 = 60 := by decide +kernel
theorem e_X3_write_60 : decode cX3_write 60 = .ok (.sipush 255, 3) ∧ 60 + 3 = 63 := by decide +kernel
theorem e_X3_write_63 : decode cX3_write 63 = .ok (.iand, 1) ∧ 63 + 1 = 64 := by decide +kernel
theorem e_X3_write_64 : decode cX3_write 64 = .ok (.iastore, 1) ∧ 64 + 1 = 65 := by decide +kernel
theorem e_X3_write_65 : decode cX3_write 65 = .ok (.aload_n 0, 1) ∧ 65 + 1 = 66 := by decide +kernel
theorem e_X3_write_66 : decode cX3_write 66 = .ok (.dup, 1) ∧ 66 + 1 = 67 := by decide +kernel
theorem e_X3_write_67 : decode cX3_write 67 = .ok (.getfield 62, 3) ∧ 67 + 3 = 70 := by decide +kernel
theorem e_X3_write_70 : decode cX3_write 70 = .ok (.iconst 1, 1) ∧ 70 + 1 = 71 := by decide +kernel
theorem e_X3_write_71 : decode cX3_write 71 = .ok (.iadd, 1) ∧ 71 + 1 = 72 := by decide +kernel
theorem e_X3_write_72 : decode cX3_write 72 = .ok (.putfield 62, 3) ∧ 72 + 3 = 75 := by decide +kernel
theorem e_X3_write_75 : decode cX3_write 75 = .ok (.iinc 4 (-1), 3) ∧ 75 + 3 = 78 := by decide +kernel
theorem e_X3_write_78 : decode cX3_write 78 = .ok (.goto (-39), 3) ∧ 78 + 3 = 81 ∧ ((78 : Nat) : Int) + (-39) = ((39 : Nat) : Int) := by decide +kernel
theorem e_X3_write_81 : decode cX3_write 81 = .ok (.aload_n 0, 1) ∧ 81 + 1 = 82 := by decide +kernel
theorem e_X3_write_82 : decode cX3_write 82 = .ok (.getfield 62, 3) ∧ 82 + 3 = 85 := by decide +kernel
theorem e_X3_write_85 : decode cX3_write 85 = .ok (.ireturn, 1) := by decide +kernel
theorem e_X3_wipe_0 : decode cX3_wipe 0 = .ok (.aload_n 0, 1) ∧ 0 + 1 = 1 := by decide +kernel
theorem e_X3_wipe_1 : decode cX3_wipe 1 = .ok (.iconst 0, 1) ∧ 1 + 1 = 2 := by decide +kernel
theorem e_X3_wipe_2 : decode cX3_wipe 2 = .ok (.putfield 48, 3) ∧ 2 + 3 = 5 := by decide +kernel
theorem e_X3_wipe_5 : decode cX3_wipe 5 = .ok (.aload_n 0, 1) ∧ 5 + 1 = 6 := by decide +kernel
theorem e_X3_wipe_6 : decode cX3_wipe 6 = .ok (.getfield 62, 3) ∧ 6 + 3 = 9 := by decide +kernel
theorem e_X3_wipe_9 : decode cX3_wipe 9 = .ok (.istore_n 1, 1) ∧ 9 + 1 = 10 := by decide +kernel
theorem e_X3_wipe_10 : decode cX3_wipe 10 = .ok (.aload_n 0, 1) ∧ 10 + 1 = 11 := by decide +kernel
theorem e_X3_wipe_11 : decode cX3_wipe 11 = .ok (.iconst 0, 1) ∧ 11 + 1 = 12 := by decide +kernel
theorem e_X3_wipe_12 : decode cX3_wipe 12 = .ok (.putfield 62, 3) ∧ 12 + 3 = 15 := by decide +kernel
theorem e_X3_wipe_15 : decode cX3_wipe 15 = .ok (.iload_n 1, 1) ∧ 15 + 1 = 16 := by decide +kernel
theorem e_X3_wipe_16 : decode cX3_wipe 16 = .ok (.ireturn, 1) := by decide +kernel
theorem e_X3_figure_0 : decode cX3_figure 0 = .ok (.aload_n 0, 1) ∧ 0 + 1 = 1 := by decide +kernel
theorem e_X3_figure_1 : decode cX3_figure 1 = .ok (.getfield 65, 3) ∧ 1 + 3 = 4 := by decide +kernel
theorem e_X3_figure_4 : decode cX3_figure 4 = .ok (.aload_n 0, 1) ∧ 4 + 1 = 5 := by decide +kernel
theorem e_X3_figure_5 : decode cX3_figure 5 = .ok (.getfield 62, 3) ∧ 5 + 3 = 8 := by decide +kernel
theorem e_X3_figure_8 : decode cX3_figure 8 = .ok (.if_icmp .eq 26, 3) ∧ 8 + 3 = 11 ∧ ((8 : Nat) : Int) + (26) = ((34 : Nat) : Int) := by decide +kernel
theorem e_X3_figure_11 : decode cX3_figure 11 = .ok (.aload_n 0, 1) ∧ 11 + 1 = 12 := by decide +kernel
theorem e_X3_figure_12 : decode cX3_figure 12 = .ok (.getfield 7, 3) ∧ 12 + 3 = 15 := by decide +kernel
theorem e_X3_figure_15 : decode cX3_figure 15 = .ok (.aload_n 0, 1) ∧ 15 + 1 = 16 := by decide +kernel
theorem e_X3_figure_16 : decode cX3_figure 16 = .ok (.getfield 65, 3) ∧ 16 + 3 = 19 := by decide +kernel
theorem e_X3_figure_19 : decode cX3_figure 19 = .ok (.iaload, 1) ∧ 19 + 1 = 20 := by decide +kernel
theorem e_X3_figure_20 : decode cX3_figure 20 = .ok (.bipush 48, 2) ∧ 20 + 2 = 22 := by decide +kernel
theorem e_X3_figure_22 : decode cX3_figure 22 = .ok (.isub, 1) ∧ 22 + 1 = 23 := by decide +kernel
theorem e_X3_figure_23 : decode cX3_figure 23 = .ok (.i2l, 1) ∧ 23 + 1 = 24 := by decide +kernel
theorem e_X3_figure_24 : decode cX3_figure 24 = .ok (.iload_n 1, 1) ∧ 24 + 1 = 25 := by decide +kernel
theorem e_X3_figure_25 : decode cX3_figure 25 = .ok (.i2l, 1) ∧ 25 + 1 = 26 := by decide +kernel
theorem e_X3_figure_26 : decode cX3_figure 26 = .ok (.iload_n 2, 1) ∧ 26 + 1 = 27 := by decide +kernel
theorem e_X3_figure_27 : decode cX3_figure 27 = .ok (.i2l, 1) ∧ 27 + 1 = 28 := by decide +kernel
theorem e_X3_figure_28 : decode cX3_figure 28 = .ok (.invokestatic 54, 3) ∧ 28 + 3 = 31 := by decide +kernel
theorem e_X3_figure_31 : decode cX3_figure 31 = .ok (.ifCond .ne 6, 3) ∧ 31 + 3 = 34 ∧ ((31 : Nat) : Int) + (6) = ((37 : Nat) : Int) := by decide +kernel
theorem e_X3_figure_34 : decode cX3_figure 34 = .ok (.bipush (-9), 2) ∧ 34 + 2 = 36 := by decide +kernel
theorem e_X3_figure_36 : decode cX3_figure 36 = .ok (.ireturn, 1) := by decide +kernel
theorem e_X3_figure_37 : decode cX3_figure 37 = .ok (.aload_n 0, 1) ∧ 37 + 1 = 38 := by decide +kernel
theorem e_X3_figure_38 : decode cX3_figure 38 = .ok (.dup, 1) ∧ 38 + 1 = 39 := by decide +kernel
theorem e_X3_figure_39 : decode cX3_figure 39 = .ok (.getfield 65, 3) ∧ 39 + 3 = 42 := by decide +kernel
theorem e_X3_figure_42 : decode cX3_figure 42 = .ok (.iconst 1, 1) ∧ 42 + 1 = 43 := by decide +kernel
theorem e_X3_figure_43 : decode cX3_figure 43 = .ok (.iadd, 1) ∧ 43 + 1 = 44 := by decide +kernel
theorem e_X3_figure_44 : decode cX3_figure 44 = .ok (.putfield 65, 3) ∧ 44 + 3 = 47 := by decide +kernel
theorem e_X3_figure_47 : decode cX3_figure 47 = .ok (.aload_n 0, 1) ∧ 47 + 1 = 48 := by decide +kernel
theorem e_X3_figure_48 : decode cX3_figure 48 = .ok (.getfield 7, 3) ∧ 48 + 3 = 51 := by decide +kernel
theorem e_X3_figure_51 : decode cX3_figure 51 = .ok (.aload_n 0, 1) ∧ 51 + 1 = 52 := by decide +kernel
theorem e_X3_figure_52 : decode cX3_figure 52 = .ok (.getfield 65, 3) ∧ 52 + 3 = 55 := by decide +kernel
theorem e_X3_figure_55 : decode cX3_figure 55 = .ok (.iconst 1, 1) ∧ 55 + 1 = 56 := by decide +kernel
theorem e_X3_figure_56 : decode cX3_figure 56 = .ok (.isub, 1) ∧ 56 + 1 = 57 := by decide +kernel
theorem e_X3_figure_57 : decode cX3_figure 57 = .ok (.iaload, 1) ∧ 57 + 1 = 58 := by decide +kernel
theorem e_X3_figure_58 : decode cX3_figure 58 = .ok (.bipush 48, 2) ∧ 58 + 2 = 60 := by decide +kernel
theorem e_X3_figure_60 : decode cX3_figure 60 = .ok (.isub, 1) ∧ 60 + 1 = 61 := by decide +kernel
theorem e_X3_figure_61 : decode cX3_figure 61 = .ok (.ireturn, 1) := by decide +kernel
theorem e_X3_readCellOf_0 : decode cX3_readCellOf 0 = .ok (.aload_n 0, 1) ∧ 0 + 1 = 1 := by decide +kernel
theorem e_X3_readCellOf_1 : decode cX3_readCellOf 1 = .ok (.getfield 65, 3) ∧ 1 + 3 = 4 := by decide +kernel
theorem e_X3_readCellOf_4 : decode cX3_readCellOf 4 = .ok (.aload_n 0, 1) ∧ 4 + 1 = 5 := by decide +kernel
theorem e_X3_readCellOf_5 : decode cX3_readCellOf 5 = .ok (.getfield 62, 3) ∧ 5 + 3 = 8 := by decide +kernel
theorem e_X3_readCellOf_8 : decode cX3_readCellOf 8 = .ok (.if_icmp .ge 18, 3) ∧ 8 + 3 = 11 ∧ ((8 : Nat) : Int) + (18) = ((26 : Nat) : Int) := by decide +kernel
theorem e_X3_readCellOf_11 : decode cX3_readCellOf 11 = .ok (.aload_n 0, 1) ∧ 11 + 1 = 12 := by decide +kernel
theorem e_X3_readCellOf_12 : decode cX3_readCellOf 12 = .ok (.getfield 7, 3) ∧ 12 + 3 = 15 := by decide +kernel
theorem e_X3_readCellOf_15 : decode cX3_readCellOf 15 = .ok (.aload_n 0, 1) ∧ 15 + 1 = 16 := by decide +kernel
theorem e_X3_readCellOf_16 : decode cX3_readCellOf 16 = .ok (.getfield 65, 3) ∧ 16 + 3 = 19 := by decide +kernel
theorem e_X3_readCellOf_19 : decode cX3_readCellOf 19 = .ok (.iaload, 1) ∧ 19 + 1 = 20 := by decide +kernel
theorem e_X3_readCellOf_20 : decode cX3_readCellOf 20 = .ok (.bipush 48, 2) ∧ 20 + 2 = 22 := by decide +kernel
theorem e_X3_readCellOf_22 : decode cX3_readCellOf 22 = .ok (.isub, 1) ∧ 22 + 1 = 23 := by decide +kernel
theorem e_X3_readCellOf_23 : decode cX3_readCellOf 23 = .ok (.goto 5, 3) ∧ 23 + 3 = 26 ∧ ((23 : Nat) : Int) + (5) = ((28 : Nat) : Int) := by decide +kernel
theorem e_X3_readCellOf_26 : decode cX3_readCellOf 26 = .ok (.bipush (-9), 2) ∧ 26 + 2 = 28 := by decide +kernel
theorem e_X3_readCellOf_28 : decode cX3_readCellOf 28 = .ok (.istore_n 2, 1) ∧ 28 + 1 = 29 := by decide +kernel
theorem e_X3_readCellOf_29 : decode cX3_readCellOf 29 = .ok (.iload_n 2, 1) ∧ 29 + 1 = 30 := by decide +kernel
theorem e_X3_readCellOf_30 : decode cX3_readCellOf 30 = .ok (.ifCond .ne 9, 3) ∧ 30 + 3 = 33 ∧ ((30 : Nat) : Int) + (9) = ((39 : Nat) : Int) := by decide +kernel
theorem e_X3_readCellOf_33 : decode cX3_readCellOf 33 = .ok (.sipush 1023, 3) ∧ 33 + 3 = 36 := by decide +kernel
theorem e_X3_readCellOf_36 : decode cX3_readCellOf 36 = .ok (.goto 6, 3) ∧ 36 + 3 = 39 ∧ ((36 : Nat) : Int) + (6) = ((42 : Nat) : Int) := by decide +kernel
theorem e_X3_readCellOf_39 : decode cX3_readCellOf 39 = .ok (.sipush 3072, 3) ∧ 39 + 3 = 42 := by decide +kernel
theorem e_X3_readCellOf_42 : decode cX3_readCellOf 42 = .ok (.istore_n 3, 1) ∧ 42 + 1 = 43 := by decide +kernel
theorem e_X3_readCellOf_43 : decode cX3_readCellOf 43 = .ok (.iload_n 2, 1) ∧ 43 + 1 = 44 := by decide +kernel
theorem e_X3_readCellOf_44 : decode cX3_readCellOf 44 = .ok (.i2l, 1) ∧ 44 + 1 = 45 := by decide +kernel
theorem e_X3_readCellOf_45 : decode cX3_readCellOf 45 = .ok (.lconst 0, 1) ∧ 45 + 1 = 46 := by decide +kernel
theorem e_X3_readCellOf_46 : decode cX3_readCellOf 46 = .ok (.lconst 1, 1) ∧ 46 + 1 = 47 := by decide +kernel
theorem e_X3_readCellOf_47 : decode cX3_readCellOf 47 = .ok (.invokestatic 54, 3) ∧ 47 + 3 = 50 := by decide +kernel
theorem e_X3_readCellOf_50 : decode cX3_readCellOf 50 = .ok (.ifCond .eq 10, 3) ∧ 50 + 3 = 53 ∧ ((50 : Nat) : Int) + (10) = ((60 : Nat) : Int) := by decide +kernel
theorem e_X3_readCellOf_53 : decode cX3_readCellOf 53 = .ok (.iload_n 1, 1) ∧ 53 + 1 = 54 := by decide +kernel
theorem e_X3_readCellOf_54 : decode cX3_readCellOf 54 = .ok (.iload_n 3, 1) ∧ 54 + 1 = 55 := by decide +kernel
theorem e_X3_readCellOf_55 : decode cX3_readCellOf 55 = .ok (.iand, 1) ∧ 55 + 1 = 56 := by decide +kernel
theorem e_X3_readCellOf_56 : decode cX3_readCellOf 56 = .ok (.iload_n 3, 1) ∧ 56 + 1 = 57 := by decide +kernel
theorem e_X3_readCellOf_57 : decode cX3_readCellOf 57 = .ok (.if_icmp .ne 6, 3) ∧ 57 + 3 = 60 ∧ ((57 : Nat) : Int) + (6) = ((63 : Nat) : Int) := by decide +kernel
theorem e_X3_readCellOf_60 : decode cX3_readCellOf 60 = .ok (.bipush (-9), 2) ∧ 60 + 2 = 62 := by decide +kernel
theorem e_X3_readCellOf_62 : decode cX3_readCellOf 62 = .ok (.ireturn, 1) := by decide +kernel
theorem e_X3_readCellOf_63 : decode cX3_readCellOf 63 = .ok (.aload_n 0, 1) ∧ 63 + 1 = 64 := by decide +kernel
theorem e_X3_readCellOf_64 : decode cX3_readCellOf 64 = .ok (.dup, 1) ∧ 64 + 1 = 65 := by decide +kernel
theorem e_X3_readCellOf_65 : decode cX3_readCellOf 65 = .ok (.getfield 65, 3) ∧ 65 + 3 = 68 := by decide +kernel
theorem e_X3_readCellOf_68 : decode cX3_readCellOf 68 = .ok (.iconst 1, 1) ∧ 68 + 1 = 69 := by decide +kernel
theorem e_X3_readCellOf_69 : decode cX3_readCellOf 69 = .ok (.iadd, 1) ∧ 69 + 1 = 70 := by decide +kernel
theorem e_X3_readCellOf_70 : decode cX3_readCellOf 70 = .ok (.putfield 65, 3) ∧ 70 + 3 = 73 := by decide +kernel
theorem e_X3_readCellOf_73 : decode cX3_readCellOf 73 = .ok (.aload_n 0, 1) ∧ 73 + 1 = 74 := by decide +kernel
theorem e_X3_readCellOf_74 : decode cX3_readCellOf 74 = .ok (.getfield 65, 3) ∧ 74 + 3 = 77 := by decide +kernel
theorem e_X3_readCellOf_77 : decode cX3_readCellOf 77 = .ok (.aload_n 0, 1) ∧ 77 + 1 = 78 := by decide +kernel
theorem e_X3_readCellOf_78 : decode cX3_readCellOf 78 = .ok (.getfield 62, 3) ∧ 78 + 3 = 81 := by decide +kernel
theorem e_X3_readCellOf_81 : decode cX3_readCellOf 81 = .ok (.if_icmp .ge 18, 3) ∧ 81 + 3 = 84 ∧ ((81 : Nat) : Int) + (18) = ((99 : Nat) : Int) := by decide +kernel
theorem e_X3_readCellOf_84 : decode cX3_readCellOf 84 = .ok (.aload_n 0, 1) ∧ 84 + 1 = 85 := by decide +kernel
theorem e_X3_readCellOf_85 : decode cX3_readCellOf 85 = .ok (.getfield 7, 3) ∧ 85 + 3 = 88 := by decide +kernel
theorem e_X3_readCellOf_88 : decode cX3_readCellOf 88 = .ok (.aload_n 0, 1) ∧ 88 + 1 = 89 := by decide +kernel
theorem e_X3_readCellOf_89 : decode cX3_readCellOf 89 = .ok (.getfield 65, 3) ∧ 89 + 3 = 92 := by decide +kernel
theorem e_X3_readCellOf_92 : decode cX3_readCellOf 92 = .ok (.iaload, 1) ∧ 92 + 1 = 93 := by decide +kernel
theorem e_X3_readCellOf_93 : decode cX3_readCellOf 93 = .ok (.bipush 48, 2) ∧ 93 + 2 = 95 := by decide +kernel
theorem e_X3_readCellOf_95 : decode cX3_readCellOf 95 = .ok (.isub, 1) ∧ 95 + 1 = 96 := by decide +kernel
theorem e_X3_readCellOf_96 : decode cX3_readCellOf 96 = .ok (.goto 5, 3) ∧ 96 + 3 = 99 ∧ ((96 : Nat) : Int) + (5) = ((101 : Nat) : Int) := by decide +kernel
theorem e_X3_readCellOf_99 : decode cX3_readCellOf 99 = .ok (.bipush (-9), 2) ∧ 99 + 2 = 101 := by decide +kernel
theorem e_X3_readCellOf_101 : decode cX3_readCellOf 101 = .ok (.istore 4, 2) ∧ 101 + 2 = 103 := by decide +kernel
theorem e_X3_readCellOf_103 : decode cX3_readCellOf 103 = .ok (.iload 4, 2) ∧ 103 + 2 = 105 := by decide +kernel
theorem e_X3_readCellOf_105 : decode cX3_readCellOf 105 = .ok (.i2l, 1) ∧ 105 + 1 = 106 := by decide +kernel
theorem e_X3_readCellOf_106 : decode cX3_readCellOf 106 = .ok (.lconst 0, 1) ∧ 106 + 1 = 107 := by decide +kernel
theorem e_X3_readCellOf_107 : decode cX3_readCellOf 107 = .ok (.iload_n 2, 1) ∧ 107 + 1 = 108 := by decide +kernel
theorem e_X3_readCellOf_108 : decode cX3_readCellOf 108 = .ok (.ifCond .ne 9, 3) ∧ 108 + 3 = 111 ∧ ((108 : Nat) : Int) + (9) = ((117 : Nat) : Int) := by decide +kernel
theorem e_X3_readCellOf_111 : decode cX3_readCellOf 111 = .ok (.ldc2_w 68, 3) ∧ 111 + 3 = 114 := by decide +kernel
theorem e_X3_readCellOf_114 : decode cX3_readCellOf 114 = .ok (.goto 4, 3) ∧ 114 + 3 = 117 ∧ ((114 : Nat) : Int) + (4) = ((118 : Nat) : Int) := by decide +kernel
theorem e_X3_readCellOf_117 : decode cX3_readCellOf 117 = .ok (.lconst 1, 1) ∧ 117 + 1 = 118 := by decide +kernel
theorem e_X3_readCellOf_118 : decode cX3_readCellOf 118 = .ok (.invokestatic 54, 3) ∧ 118 + 3 = 121 := by decide +kernel
theorem e_X3_readCellOf_121 : decode cX3_readCellOf 121 = .ok (.ifCond .eq 17, 3) ∧ 121 + 3 = 124 ∧ ((121 : Nat) : Int) + (17) = ((138 : Nat) : Int) := by decide +kernel
theorem e_X3_readCellOf_124 : decode cX3_readCellOf 124 = .ok (.iload_n 1, 1) ∧ 124 + 1 = 125 := by decide +kernel
theorem e_X3_readCellOf_125 : decode cX3_readCellOf 125 = .ok (.bipush 10, 2) ∧ 125 + 2 = 127 := by decide +kernel
theorem e_X3_readCellOf_127 : decode cX3_readCellOf 127 = .ok (.iload_n 2, 1) ∧ 127 + 1 = 128 := by decide +kernel
theorem e_X3_readCellOf_128 : decode cX3_readCellOf 128 = .ok (.imul, 1) ∧ 128 + 1 = 129 := by decide +kernel
theorem e_X3_readCellOf_129 : decode cX3_readCellOf 129 = .ok (.iload 4, 2) ∧ 129 + 2 = 131 := by decide +kernel
theorem e_X3_readCellOf_131 : decode cX3_readCellOf 131 = .ok (.iadd, 1) ∧ 131 + 1 = 132 := by decide +kernel
theorem e_X3_readCellOf_132 : decode cX3_readCellOf 132 = .ok (.invokestatic 70, 3) ∧ 132 + 3 = 135 := by decide +kernel
theorem e_X3_readCellOf_135 : decode cX3_readCellOf 135 = .ok (.ifCond .eq 6, 3) ∧ 135 + 3 = 138 ∧ ((135 : Nat) : Int) + (6) = ((141 : Nat) : Int) := by decide +kernel
theorem e_X3_readCellOf_138 : decode cX3_readCellOf 138 = .ok (.bipush (-9), 2) ∧ 138 + 2 = 140 := by decide +kernel
theorem e_X3_readCellOf_140 : decode cX3_readCellOf 140 = .ok (.ireturn, 1) := by decide +kernel
theorem e_X3_readCellOf_141 : decode cX3_readCellOf 141 = .ok (.aload_n 0, 1) ∧ 141 + 1 = 142 := by decide +kernel
theorem e_X3_readCellOf_142 : decode cX3_readCellOf 142 = .ok (.dup, 1) ∧ 142 + 1 = 143 := by decide +kernel
theorem e_X3_readCellOf_143 : decode cX3_readCellOf 143 = .ok (.getfield 65, 3) ∧ 143 + 3 = 146 := by decide +kernel
theorem e_X3_readCellOf_146 : decode cX3_readCellOf 146 = .ok (.iconst 1, 1) ∧ 146 + 1 = 147 := by decide +kernel
theorem e_X3_readCellOf_147 : decode cX3_readCellOf 147 = .ok (.iadd, 1) ∧ 147 + 1 = 148 := by decide +kernel
theorem e_X3_readCellOf_148 : decode cX3_readCellOf 148 = .ok (.putfield 65, 3) ∧ 148 + 3 = 151 := by decide +kernel
theorem e_X3_readCellOf_151 : decode cX3_readCellOf 151 = .ok (.bipush 10, 2) ∧ 151 + 2 = 153 := by decide +kernel
theorem e_X3_readCellOf_153 : decode cX3_readCellOf 153 = .ok (.iload_n 2, 1) ∧ 153 + 1 = 154 := by decide +kernel
theorem e_X3_readCellOf_154 : decode cX3_readCellOf 154 = .ok (.imul, 1) ∧ 154 + 1 = 155 := by decide +kernel
theorem e_X3_readCellOf_155 : decode cX3_readCellOf 155 = .ok (.iload 4, 2) ∧ 155 + 2 = 157 := by decide +kernel
theorem e_X3_readCellOf_157 : decode cX3_readCellOf 157 = .ok (.iadd, 1) ∧ 157 + 1 = 158 := by decide +kernel
theorem e_X3_readCellOf_158 : decode cX3_readCellOf 158 = .ok (.ireturn, 1) := by decide +kernel
theorem e_X3_readCell_0 : decode cX3_readCell 0 = .ok (.aload_n 0, 1) ∧ 0 + 1 = 1 := by decide +kernel
theorem e_X3_readCell_1 : decode cX3_readCell 1 = .ok (.aload_n 0, 1) ∧ 1 + 1 = 2 := by decide +kernel
theorem e_X3_readCell_2 : decode cX3_readCell 2 = .ok (.getfield 74, 3) ∧ 2 + 3 = 5 := by decide +kernel
theorem e_X3_readCell_5 : decode cX3_readCell 5 = .ok (.invokevirtual 77, 3) ∧ 5 + 3 = 8 := by decide +kernel
theorem e_X3_readCell_8 : decode cX3_readCell 8 = .ok (.istore_n 1, 1) ∧ 8 + 1 = 9 := by decide +kernel
theorem e_X3_readCell_9 : decode cX3_readCell 9 = .ok (.iload_n 1, 1) ∧ 9 + 1 = 10 := by decide +kernel
theorem e_X3_readCell_10 : decode cX3_readCell 10 = .ok (.bipush (-9), 2) ∧ 10 + 2 = 12 := by decide +kernel
theorem e_X3_readCell_12 : decode cX3_readCell 12 = .ok (.if_icmp .ne 8, 3) ∧ 12 + 3 = 15 ∧ ((12 : Nat) : Int) + (8) = ((20 : Nat) : Int) := by decide +kernel
theorem e_X3_readCell_15 : decode cX3_readCell 15 = .ok (.bipush (-9), 2) ∧ 15 + 2 = 17 := by decide +kernel
theorem e_X3_readCell_17 : decode cX3_readCell 17 = .ok (.goto 10, 3) ∧ 17 + 3 = 20 ∧ ((17 : Nat) : Int) + (10) = ((27 : Nat) : Int) := by decide +kernel
theorem e_X3_readCell_20 : decode cX3_readCell 20 = .ok (.aload_n 0, 1) ∧ 20 + 1 = 21 := by decide +kernel
theorem e_X3_readCell_21 : decode cX3_readCell 21 = .ok (.iconst 0, 1) ∧ 21 + 1 = 22 := by decide +kernel
theorem e_X3_readCell_22 : decode cX3_readCell 22 = .ok (.bipush 9, 2) ∧ 22 + 2 = 24 := by decide +kernel
theorem e_X3_readCell_24 : decode cX3_readCell 24 = .ok (.invokevirtual 81, 3) ∧ 24 + 3 = 27 := by decide +kernel
theorem e_X3_readCell_27 : decode cX3_readCell 27 = .ok (.istore_n 2, 1) ∧ 27 + 1 = 28 := by decide +kernel
theorem e_X3_readCell_28 : decode cX3_readCell 28 = .ok (.iload_n 2, 1) ∧ 28 + 1 = 29 := by decide +kernel
theorem e_X3_readCell_29 : decode cX3_readCell 29 = .ok (.bipush (-9), 2) ∧ 29 + 2 = 31 := by decide +kernel
theorem e_X3_readCell_31 : decode cX3_readCell 31 = .ok (.if_icmp .ne 8, 3) ∧ 31 + 3 = 34 ∧ ((31 : Nat) : Int) + (8) = ((39 : Nat) : Int) := by decide +kernel
theorem e_X3_readCell_34 : decode cX3_readCell 34 = .ok (.bipush (-9), 2) ∧ 34 + 2 = 36 := by decide +kernel
theorem e_X3_readCell_36 : decode cX3_readCell 36 = .ok (.goto 10, 3) ∧ 36 + 3 = 39 ∧ ((36 : Nat) : Int) + (10) = ((46 : Nat) : Int) := by decide +kernel
theorem e_X3_readCell_39 : decode cX3_readCell 39 = .ok (.aload_n 0, 1) ∧ 39 + 1 = 40 := by decide +kernel
theorem e_X3_readCell_40 : decode cX3_readCell 40 = .ok (.iconst 0, 1) ∧ 40 + 1 = 41 := by decide +kernel
theorem e_X3_readCell_41 : decode cX3_readCell 41 = .ok (.bipush 9, 2) ∧ 41 + 2 = 43 := by decide +kernel
theorem e_X3_readCell_43 : decode cX3_readCell 43 = .ok (.invokevirtual 81, 3) ∧ 43 + 3 = 46 := by decide +kernel
theorem e_X3_readCell_46 : decode cX3_readCell 46 = .ok (.istore_n 3, 1) ∧ 46 + 1 = 47 := by decide +kernel
theorem e_X3_readCell_47 : decode cX3_readCell 47 = .ok (.iload_n 3, 1) ∧ 47 + 1 = 48 := by decide +kernel
theorem e_X3_readCell_48 : decode cX3_readCell 48 = .ok (.bipush (-9), 2) ∧ 48 + 2 = 50 := by decide +kernel
theorem e_X3_readCell_50 : decode cX3_readCell 50 = .ok (.if_icmp .ne 8, 3) ∧ 50 + 3 = 53 ∧ ((50 : Nat) : Int) + (8) = ((58 : Nat) : Int) := by decide +kernel
theorem e_X3_readCell_53 : decode cX3_readCell 53 = .ok (.bipush (-9), 2) ∧ 53 + 2 = 55 := by decide +kernel
theorem e_X3_readCell_55 : decode cX3_readCell 55 = .ok (.goto 10, 3) ∧ 55 + 3 = 58 ∧ ((55 : Nat) : Int) + (10) = ((65 : Nat) : Int) := by decide +kernel
theorem e_X3_readCell_58 : decode cX3_readCell 58 = .ok (.aload_n 0, 1) ∧ 58 + 1 = 59 := by decide +kernel
theorem e_X3_readCell_59 : decode cX3_readCell 59 = .ok (.iconst 0, 1) ∧ 59 + 1 = 60 := by decide +kernel
theorem e_X3_readCell_60 : decode cX3_readCell 60 = .ok (.bipush 9, 2) ∧ 60 + 2 = 62 := by decide +kernel
theorem e_X3_readCell_62 : decode cX3_readCell 62 = .ok (.invokevirtual 81, 3) ∧ 62 + 3 = 65 := by decide +kernel
theorem e_X3_readCell_65 : decode cX3_readCell 65 = .ok (.istore 4, 2) ∧ 65 + 2 = 67 := by decide +kernel
theorem e_X3_readCell_67 : decode cX3_readCell 67 = .ok (.iload 4, 2) ∧ 67 + 2 = 69 := by decide +kernel
theorem e_X3_readCell_69 : decode cX3_readCell 69 = .ok (.bipush (-9), 2) ∧ 69 + 2 = 71 := by decide +kernel
theorem e_X3_readCell_71 : decode cX3_readCell 71 = .ok (.if_icmp .ne 5, 3) ∧ 71 + 3 = 74 ∧ ((71 : Nat) : Int) + (5) = ((76 : Nat) : Int) := by decide +kernel
theorem e_X3_readCell_74 : decode cX3_readCell 74 = .ok (.iconst 0, 1) ∧ 74 + 1 = 75 := by decide +kernel
theorem e_X3_readCell_75 : decode cX3_readCell 75 = .ok (.ireturn, 1) := by decide +kernel
theorem e_X3_readCell_76 : decode cX3_readCell 76 = .ok (.aload_n 0, 1) ∧ 76 + 1 = 77 := by decide +kernel
theorem e_X3_readCell_77 : decode cX3_readCell 77 = .ok (.dup, 1) ∧ 77 + 1 = 78 := by decide +kernel
theorem e_X3_readCell_78 : decode cX3_readCell 78 = .ok (.getfield 74, 3) ∧ 78 + 3 = 81 := by decide +kernel
theorem e_X3_readCell_81 : decode cX3_readCell 81 = .ok (.iconst 1, 1) ∧ 81 + 1 = 82 := by decide +kernel
theorem e_X3_readCell_82 : decode cX3_readCell 82 = .ok (.iload_n 1, 1) ∧ 82 + 1 = 83 := by decide +kernel
theorem e_X3_readCell_83 : decode cX3_readCell 83 = .ok (.ishl, 1) ∧ 83 + 1 = 84 := by decide +kernel
end
section
theorem e_X3_readCell_84 : decode cX3_readCell 84 = .ok (.ior, 1) ∧ 84 + 1 = 85 := by decide +kernel
theorem e_X3_readCell_85 : decode cX3_readCell 85 = .ok (.putfield 74, 3) ∧ 85 + 3 = 88 := by decide +kernel
theorem e_X3_readCell_88 : decode cX3_readCell 88 = .ok (.aload_n 0, 1) ∧ 88 + 1 = 89 := by decide +kernel
theorem e_X3_readCell_89 : decode cX3_readCell 89 = .ok (.getfield 23, 3) ∧ 89 + 3 = 92 := by decide +kernel
theorem e_X3_readCell_92 : decode cX3_readCell 92 = .ok (.iload_n 1, 1) ∧ 92 + 1 = 93 := by decide +kernel
theorem e_X3_readCell_93 : decode cX3_readCell 93 = .ok (.iload_n 2, 1) ∧ 93 + 1 = 94 := by decide +kernel
theorem e_X3_readCell_94 : decode cX3_readCell 94 = .ok (.iastore, 1) ∧ 94 + 1 = 95 := by decide +kernel
theorem e_X3_readCell_95 : decode cX3_readCell 95 = .ok (.aload_n 0, 1) ∧ 95 + 1 = 96 := by decide +kernel
theorem e_X3_readCell_96 : decode cX3_readCell 96 = .ok (.getfield 23, 3) ∧ 96 + 3 = 99 := by decide +kernel
theorem e_X3_readCell_99 : decode cX3_readCell 99 = .ok (.bipush 12, 2) ∧ 99 + 2 = 101 := by decide +kernel
theorem e_X3_readCell_101 : decode cX3_readCell 101 = .ok (.iload_n 1, 1) ∧ 101 + 1 = 102 := by decide +kernel
theorem e_X3_readCell_102 : decode cX3_readCell 102 = .ok (.iadd, 1) ∧ 102 + 1 = 103 := by decide +kernel
theorem e_X3_readCell_103 : decode cX3_readCell 103 = .ok (.iload_n 3, 1) ∧ 103 + 1 = 104 := by decide +kernel
theorem e_X3_readCell_104 : decode cX3_readCell 104 = .ok (.iastore, 1) ∧ 104 + 1 = 105 := by decide +kernel
theorem e_X3_readCell_105 : decode cX3_readCell 105 = .ok (.aload_n 0, 1) ∧ 105 + 1 = 106 := by decide +kernel
theorem e_X3_readCell_106 : decode cX3_readCell 106 = .ok (.getfield 23, 3) ∧ 106 + 3 = 109 := by decide +kernel
theorem e_X3_readCell_109 : decode cX3_readCell 109 = .ok (.bipush 24, 2) ∧ 109 + 2 = 111 := by decide +kernel
theorem e_X3_readCell_111 : decode cX3_readCell 111 = .ok (.iload_n 1, 1) ∧ 111 + 1 = 112 := by decide +kernel
theorem e_X3_readCell_112 : decode cX3_readCell 112 = .ok (.iadd, 1) ∧ 112 + 1 = 113 := by decide +kernel
theorem e_X3_readCell_113 : decode cX3_readCell 113 = .ok (.iload 4, 2) ∧ 113 + 2 = 115 := by decide +kernel
theorem e_X3_readCell_115 : decode cX3_readCell 115 = .ok (.iastore, 1) ∧ 115 + 1 = 116 := by decide +kernel
theorem e_X3_readCell_116 : decode cX3_readCell 116 = .ok (.aload_n 0, 1) ∧ 116 + 1 = 117 := by decide +kernel
theorem e_X3_readCell_117 : decode cX3_readCell 117 = .ok (.dup, 1) ∧ 117 + 1 = 118 := by decide +kernel
theorem e_X3_readCell_118 : decode cX3_readCell 118 = .ok (.getfield 85, 3) ∧ 118 + 3 = 121 := by decide +kernel
theorem e_X3_readCell_121 : decode cX3_readCell 121 = .ok (.iconst 1, 1) ∧ 121 + 1 = 122 := by decide +kernel
theorem e_X3_readCell_122 : decode cX3_readCell 122 = .ok (.iadd, 1) ∧ 122 + 1 = 123 := by decide +kernel
theorem e_X3_readCell_123 : decode cX3_readCell 123 = .ok (.putfield 85, 3) ∧ 123 + 3 = 126 := by decide +kernel
theorem e_X3_readCell_126 : decode cX3_readCell 126 = .ok (.iconst 1, 1) ∧ 126 + 1 = 127 := by decide +kernel
theorem e_X3_readCell_127 : decode cX3_readCell 127 = .ok (.ireturn, 1) := by decide +kernel
theorem e_X3_readMonk_0 : decode cX3_readMonk 0 = .ok (.aload_n 0, 1) ∧ 0 + 1 = 1 := by decide +kernel
theorem e_X3_readMonk_1 : decode cX3_readMonk 1 = .ok (.iconst 0, 1) ∧ 1 + 1 = 2 := by decide +kernel
theorem e_X3_readMonk_2 : decode cX3_readMonk 2 = .ok (.invokevirtual 77, 3) ∧ 2 + 3 = 5 := by decide +kernel
theorem e_X3_readMonk_5 : decode cX3_readMonk 5 = .ok (.istore_n 1, 1) ∧ 5 + 1 = 6 := by decide +kernel
theorem e_X3_readMonk_6 : decode cX3_readMonk 6 = .ok (.iload_n 1, 1) ∧ 6 + 1 = 7 := by decide +kernel
theorem e_X3_readMonk_7 : decode cX3_readMonk 7 = .ok (.bipush (-9), 2) ∧ 7 + 2 = 9 := by decide +kernel
theorem e_X3_readMonk_9 : decode cX3_readMonk 9 = .ok (.if_icmp .ne 8, 3) ∧ 9 + 3 = 12 ∧ ((9 : Nat) : Int) + (8) = ((17 : Nat) : Int) := by decide +kernel
theorem e_X3_readMonk_12 : decode cX3_readMonk 12 = .ok (.bipush (-9), 2) ∧ 12 + 2 = 14 := by decide +kernel
theorem e_X3_readMonk_14 : decode cX3_readMonk 14 = .ok (.goto 9, 3) ∧ 14 + 3 = 17 ∧ ((14 : Nat) : Int) + (9) = ((23 : Nat) : Int) := by decide +kernel
theorem e_X3_readMonk_17 : decode cX3_readMonk 17 = .ok (.aload_n 0, 1) ∧ 17 + 1 = 18 := by decide +kernel
theorem e_X3_readMonk_18 : decode cX3_readMonk 18 = .ok (.iconst 0, 1) ∧ 18 + 1 = 19 := by decide +kernel
theorem e_X3_readMonk_19 : decode cX3_readMonk 19 = .ok (.iconst 1, 1) ∧ 19 + 1 = 20 := by decide +kernel
theorem e_X3_readMonk_20 : decode cX3_readMonk 20 = .ok (.invokevirtual 81, 3) ∧ 20 + 3 = 23 := by decide +kernel
theorem e_X3_readMonk_23 : decode cX3_readMonk 23 = .ok (.istore_n 2, 1) ∧ 23 + 1 = 24 := by decide +kernel
theorem e_X3_readMonk_24 : decode cX3_readMonk 24 = .ok (.iload_n 2, 1) ∧ 24 + 1 = 25 := by decide +kernel
theorem e_X3_readMonk_25 : decode cX3_readMonk 25 = .ok (.bipush (-9), 2) ∧ 25 + 2 = 27 := by decide +kernel
theorem e_X3_readMonk_27 : decode cX3_readMonk 27 = .ok (.if_icmp .ne 5, 3) ∧ 27 + 3 = 30 ∧ ((27 : Nat) : Int) + (5) = ((32 : Nat) : Int) := by decide +kernel
theorem e_X3_readMonk_30 : decode cX3_readMonk 30 = .ok (.iconst 0, 1) ∧ 30 + 1 = 31 := by decide +kernel
theorem e_X3_readMonk_31 : decode cX3_readMonk 31 = .ok (.ireturn, 1) := by decide +kernel
theorem e_X3_readMonk_32 : decode cX3_readMonk 32 = .ok (.aload_n 0, 1) ∧ 32 + 1 = 33 := by decide +kernel
theorem e_X3_readMonk_33 : decode cX3_readMonk 33 = .ok (.getfield 23, 3) ∧ 33 + 3 = 36 := by decide +kernel
theorem e_X3_readMonk_36 : decode cX3_readMonk 36 = .ok (.bipush 49, 2) ∧ 36 + 2 = 38 := by decide +kernel
theorem e_X3_readMonk_38 : decode cX3_readMonk 38 = .ok (.aload_n 0, 1) ∧ 38 + 1 = 39 := by decide +kernel
theorem e_X3_readMonk_39 : decode cX3_readMonk 39 = .ok (.getfield 88, 3) ∧ 39 + 3 = 42 := by decide +kernel
theorem e_X3_readMonk_42 : decode cX3_readMonk 42 = .ok (.iadd, 1) ∧ 42 + 1 = 43 := by decide +kernel
theorem e_X3_readMonk_43 : decode cX3_readMonk 43 = .ok (.iload_n 1, 1) ∧ 43 + 1 = 44 := by decide +kernel
theorem e_X3_readMonk_44 : decode cX3_readMonk 44 = .ok (.iastore, 1) ∧ 44 + 1 = 45 := by decide +kernel
theorem e_X3_readMonk_45 : decode cX3_readMonk 45 = .ok (.aload_n 0, 1) ∧ 45 + 1 = 46 := by decide +kernel
theorem e_X3_readMonk_46 : decode cX3_readMonk 46 = .ok (.getfield 26, 3) ∧ 46 + 3 = 49 := by decide +kernel
theorem e_X3_readMonk_49 : decode cX3_readMonk 49 = .ok (.aload_n 0, 1) ∧ 49 + 1 = 50 := by decide +kernel
theorem e_X3_readMonk_50 : decode cX3_readMonk 50 = .ok (.getfield 88, 3) ∧ 50 + 3 = 53 := by decide +kernel
theorem e_X3_readMonk_53 : decode cX3_readMonk 53 = .ok (.iload_n 2, 1) ∧ 53 + 1 = 54 := by decide +kernel
theorem e_X3_readMonk_54 : decode cX3_readMonk 54 = .ok (.iastore, 1) ∧ 54 + 1 = 55 := by decide +kernel
theorem e_X3_readMonk_55 : decode cX3_readMonk 55 = .ok (.aload_n 0, 1) ∧ 55 + 1 = 56 := by decide +kernel
theorem e_X3_readMonk_56 : decode cX3_readMonk 56 = .ok (.dup, 1) ∧ 56 + 1 = 57 := by decide +kernel
theorem e_X3_readMonk_57 : decode cX3_readMonk 57 = .ok (.getfield 88, 3) ∧ 57 + 3 = 60 := by decide +kernel
theorem e_X3_readMonk_60 : decode cX3_readMonk 60 = .ok (.iconst 1, 1) ∧ 60 + 1 = 61 := by decide +kernel
theorem e_X3_readMonk_61 : decode cX3_readMonk 61 = .ok (.iadd, 1) ∧ 61 + 1 = 62 := by decide +kernel
theorem e_X3_readMonk_62 : decode cX3_readMonk 62 = .ok (.putfield 88, 3) ∧ 62 + 3 = 65 := by decide +kernel
theorem e_X3_readMonk_65 : decode cX3_readMonk 65 = .ok (.iconst 1, 1) ∧ 65 + 1 = 66 := by decide +kernel
theorem e_X3_readMonk_66 : decode cX3_readMonk 66 = .ok (.ireturn, 1) := by decide +kernel
theorem e_X3_readPart_0 : decode cX3_readPart 0 = .ok (.aload_n 0, 1) ∧ 0 + 1 = 1 := by decide +kernel
theorem e_X3_readPart_1 : decode cX3_readPart 1 = .ok (.getfield 7, 3) ∧ 1 + 3 = 4 := by decide +kernel
theorem e_X3_readPart_4 : decode cX3_readPart 4 = .ok (.aload_n 0, 1) ∧ 4 + 1 = 5 := by decide +kernel
theorem e_X3_readPart_5 : decode cX3_readPart 5 = .ok (.getfield 65, 3) ∧ 5 + 3 = 8 := by decide +kernel
theorem e_X3_readPart_8 : decode cX3_readPart 8 = .ok (.iaload, 1) ∧ 8 + 1 = 9 := by decide +kernel
theorem e_X3_readPart_9 : decode cX3_readPart 9 = .ok (.istore_n 1, 1) ∧ 9 + 1 = 10 := by decide +kernel
theorem e_X3_readPart_10 : decode cX3_readPart 10 = .ok (.iload_n 1, 1) ∧ 10 + 1 = 11 := by decide +kernel
theorem e_X3_readPart_11 : decode cX3_readPart 11 = .ok (.bipush 67, 2) ∧ 11 + 2 = 13 := by decide +kernel
theorem e_X3_readPart_13 : decode cX3_readPart 13 = .ok (.if_icmp .ne 27, 3) ∧ 13 + 3 = 16 ∧ ((13 : Nat) : Int) + (27) = ((40 : Nat) : Int) := by decide +kernel
theorem e_X3_readPart_16 : decode cX3_readPart 16 = .ok (.aload_n 0, 1) ∧ 16 + 1 = 17 := by decide +kernel
theorem e_X3_readPart_17 : decode cX3_readPart 17 = .ok (.getfield 85, 3) ∧ 17 + 3 = 20 := by decide +kernel
theorem e_X3_readPart_20 : decode cX3_readPart 20 = .ok (.bipush 8, 2) ∧ 20 + 2 = 22 := by decide +kernel
theorem e_X3_readPart_22 : decode cX3_readPart 22 = .ok (.if_icmp .ge 18, 3) ∧ 22 + 3 = 25 ∧ ((22 : Nat) : Int) + (18) = ((40 : Nat) : Int) := by decide +kernel
theorem e_X3_readPart_25 : decode cX3_readPart 25 = .ok (.aload_n 0, 1) ∧ 25 + 1 = 26 := by decide +kernel
theorem e_X3_readPart_26 : decode cX3_readPart 26 = .ok (.dup, 1) ∧ 26 + 1 = 27 := by decide +kernel
theorem e_X3_readPart_27 : decode cX3_readPart 27 = .ok (.getfield 65, 3) ∧ 27 + 3 = 30 := by decide +kernel
theorem e_X3_readPart_30 : decode cX3_readPart 30 = .ok (.iconst 1, 1) ∧ 30 + 1 = 31 := by decide +kernel
theorem e_X3_readPart_31 : decode cX3_readPart 31 = .ok (.iadd, 1) ∧ 31 + 1 = 32 := by decide +kernel
theorem e_X3_readPart_32 : decode cX3_readPart 32 = .ok (.putfield 65, 3) ∧ 32 + 3 = 35 := by decide +kernel
theorem e_X3_readPart_35 : decode cX3_readPart 35 = .ok (.aload_n 0, 1) ∧ 35 + 1 = 36 := by decide +kernel
theorem e_X3_readPart_36 : decode cX3_readPart 36 = .ok (.invokevirtual 91, 3) ∧ 36 + 3 = 39 := by decide +kernel
theorem e_X3_readPart_39 : decode cX3_readPart 39 = .ok (.ireturn, 1) := by decide +kernel
theorem e_X3_readPart_40 : decode cX3_readPart 40 = .ok (.iload_n 1, 1) ∧ 40 + 1 = 41 := by decide +kernel
theorem e_X3_readPart_41 : decode cX3_readPart 41 = .ok (.bipush 75, 2) ∧ 41 + 2 = 43 := by decide +kernel
theorem e_X3_readPart_43 : decode cX3_readPart 43 = .ok (.if_icmp .ne 26, 3) ∧ 43 + 3 = 46 ∧ ((43 : Nat) : Int) + (26) = ((69 : Nat) : Int) := by decide +kernel
theorem e_X3_readPart_46 : decode cX3_readPart 46 = .ok (.aload_n 0, 1) ∧ 46 + 1 = 47 := by decide +kernel
theorem e_X3_readPart_47 : decode cX3_readPart 47 = .ok (.getfield 88, 3) ∧ 47 + 3 = 50 := by decide +kernel
theorem e_X3_readPart_50 : decode cX3_readPart 50 = .ok (.iconst 4, 1) ∧ 50 + 1 = 51 := by decide +kernel
theorem e_X3_readPart_51 : decode cX3_readPart 51 = .ok (.if_icmp .ge 18, 3) ∧ 51 + 3 = 54 ∧ ((51 : Nat) : Int) + (18) = ((69 : Nat) : Int) := by decide +kernel
theorem e_X3_readPart_54 : decode cX3_readPart 54 = .ok (.aload_n 0, 1) ∧ 54 + 1 = 55 := by decide +kernel
theorem e_X3_readPart_55 : decode cX3_readPart 55 = .ok (.dup, 1) ∧ 55 + 1 = 56 := by decide +kernel
theorem e_X3_readPart_56 : decode cX3_readPart 56 = .ok (.getfield 65, 3) ∧ 56 + 3 = 59 := by decide +kernel
theorem e_X3_readPart_59 : decode cX3_readPart 59 = .ok (.iconst 1, 1) ∧ 59 + 1 = 60 := by decide +kernel
theorem e_X3_readPart_60 : decode cX3_readPart 60 = .ok (.iadd, 1) ∧ 60 + 1 = 61 := by decide +kernel
theorem e_X3_readPart_61 : decode cX3_readPart 61 = .ok (.putfield 65, 3) ∧ 61 + 3 = 64 := by decide +kernel
theorem e_X3_readPart_64 : decode cX3_readPart 64 = .ok (.aload_n 0, 1) ∧ 64 + 1 = 65 := by decide +kernel
theorem e_X3_readPart_65 : decode cX3_readPart 65 = .ok (.invokevirtual 95, 3) ∧ 65 + 3 = 68 := by decide +kernel
theorem e_X3_readPart_68 : decode cX3_readPart 68 = .ok (.ireturn, 1) := by decide +kernel
theorem e_X3_readPart_69 : decode cX3_readPart 69 = .ok (.iconst 0, 1) ∧ 69 + 1 = 70 := by decide +kernel
theorem e_X3_readPart_70 : decode cX3_readPart 70 = .ok (.ireturn, 1) := by decide +kernel
theorem e_X3_readMine_0 : decode cX3_readMine 0 = .ok (.aload_n 0, 1) ∧ 0 + 1 = 1 := by decide +kernel
theorem e_X3_readMine_1 : decode cX3_readMine 1 = .ok (.iconst 0, 1) ∧ 1 + 1 = 2 := by decide +kernel
theorem e_X3_readMine_2 : decode cX3_readMine 2 = .ok (.putfield 65, 3) ∧ 2 + 3 = 5 := by decide +kernel
theorem e_X3_readMine_5 : decode cX3_readMine 5 = .ok (.aload_n 0, 1) ∧ 5 + 1 = 6 := by decide +kernel
theorem e_X3_readMine_6 : decode cX3_readMine 6 = .ok (.iconst 0, 1) ∧ 6 + 1 = 7 := by decide +kernel
theorem e_X3_readMine_7 : decode cX3_readMine 7 = .ok (.putfield 88, 3) ∧ 7 + 3 = 10 := by decide +kernel
theorem e_X3_readMine_10 : decode cX3_readMine 10 = .ok (.aload_n 0, 1) ∧ 10 + 1 = 11 := by decide +kernel
theorem e_X3_readMine_11 : decode cX3_readMine 11 = .ok (.iconst 0, 1) ∧ 11 + 1 = 12 := by decide +kernel
theorem e_X3_readMine_12 : decode cX3_readMine 12 = .ok (.putfield 85, 3) ∧ 12 + 3 = 15 := by decide +kernel
theorem e_X3_readMine_15 : decode cX3_readMine 15 = .ok (.aload_n 0, 1) ∧ 15 + 1 = 16 := by decide +kernel
theorem e_X3_readMine_16 : decode cX3_readMine 16 = .ok (.iconst 0, 1) ∧ 16 + 1 = 17 := by decide +kernel
theorem e_X3_readMine_17 : decode cX3_readMine 17 = .ok (.putfield 74, 3) ∧ 17 + 3 = 20 := by decide +kernel
theorem e_X3_readMine_20 : decode cX3_readMine 20 = .ok (.iconst 0, 1) ∧ 20 + 1 = 21 := by decide +kernel
theorem e_X3_readMine_21 : decode cX3_readMine 21 = .ok (.istore_n 1, 1) ∧ 21 + 1 = 22 := by decide +kernel
theorem e_X3_readMine_22 : decode cX3_readMine 22 = .ok (.iload_n 1, 1) ∧ 22 + 1 = 23 := by decide +kernel
theorem e_X3_readMine_23 : decode cX3_readMine 23 = .ok (.bipush 58, 2) ∧ 23 + 2 = 25 := by decide +kernel
theorem e_X3_readMine_25 : decode cX3_readMine 25 = .ok (.if_icmp .ge 16, 3) ∧ 25 + 3 = 28 ∧ ((25 : Nat) : Int) + (16) = ((41 : Nat) : Int) := by decide +kernel
theorem e_X3_readMine_28 : decode cX3_readMine 28 = .ok (.aload_n 0, 1) ∧ 28 + 1 = 29 := by decide +kernel
theorem e_X3_readMine_29 : decode cX3_readMine 29 = .ok (.getfield 23, 3) ∧ 29 + 3 = 32 := by decide +kernel
theorem e_X3_readMine_32 : decode cX3_readMine 32 = .ok (.iload_n 1, 1) ∧ 32 + 1 = 33 := by decide +kernel
theorem e_X3_readMine_33 : decode cX3_readMine 33 = .ok (.iconst 0, 1) ∧ 33 + 1 = 34 := by decide +kernel
theorem e_X3_readMine_34 : decode cX3_readMine 34 = .ok (.iastore, 1) ∧ 34 + 1 = 35 := by decide +kernel
theorem e_X3_readMine_35 : decode cX3_readMine 35 = .ok (.iinc 1 1, 3) ∧ 35 + 3 = 38 := by decide +kernel
theorem e_X3_readMine_38 : decode cX3_readMine 38 = .ok (.goto (-16), 3) ∧ 38 + 3 = 41 ∧ ((38 : Nat) : Int) + (-16) = ((22 : Nat) : Int) := by decide +kernel
theorem e_X3_readMine_41 : decode cX3_readMine 41 = .ok (.aload_n 0, 1) ∧ 41 + 1 = 42 := by decide +kernel
theorem e_X3_readMine_42 : decode cX3_readMine 42 = .ok (.getfield 62, 3) ∧ 42 + 3 = 45 := by decide +kernel
theorem e_X3_readMine_45 : decode cX3_readMine 45 = .ok (.ifCond .eq 14, 3) ∧ 45 + 3 = 48 ∧ ((45 : Nat) : Int) + (14) = ((59 : Nat) : Int) := by decide +kernel
theorem e_X3_readMine_48 : decode cX3_readMine 48 = .ok (.aload_n 0, 1) ∧ 48 + 1 = 49 := by decide +kernel
theorem e_X3_readMine_49 : decode cX3_readMine 49 = .ok (.getfield 7, 3) ∧ 49 + 3 = 52 := by decide +kernel
theorem e_X3_readMine_52 : decode cX3_readMine 52 = .ok (.iconst 0, 1) ∧ 52 + 1 = 53 := by decide +kernel
theorem e_X3_readMine_53 : decode cX3_readMine 53 = .ok (.iaload, 1) ∧ 53 + 1 = 54 := by decide +kernel
theorem e_X3_readMine_54 : decode cX3_readMine 54 = .ok (.bipush 77, 2) ∧ 54 + 2 = 56 := by decide +kernel
theorem e_X3_readMine_56 : decode cX3_readMine 56 = .ok (.if_icmp .eq 5, 3) ∧ 56 + 3 = 59 ∧ ((56 : Nat) : Int) + (5) = ((61 : Nat) : Int) := by decide +kernel
theorem e_X3_readMine_59 : decode cX3_readMine 59 = .ok (.iconst 0, 1) ∧ 59 + 1 = 60 := by decide +kernel
theorem e_X3_readMine_60 : decode cX3_readMine 60 = .ok (.ireturn, 1) := by decide +kernel
theorem e_X3_readMine_61 : decode cX3_readMine 61 = .ok (.aload_n 0, 1) ∧ 61 + 1 = 62 := by decide +kernel
theorem e_X3_readMine_62 : decode cX3_readMine 62 = .ok (.iconst 1, 1) ∧ 62 + 1 = 63 := by decide +kernel
theorem e_X3_readMine_63 : decode cX3_readMine 63 = .ok (.putfield 65, 3) ∧ 63 + 3 = 66 := by decide +kernel
theorem e_X3_readMine_66 : decode cX3_readMine 66 = .ok (.aload_n 0, 1) ∧ 66 + 1 = 67 := by decide +kernel
theorem e_X3_readMine_67 : decode cX3_readMine 67 = .ok (.aload_n 0, 1) ∧ 67 + 1 = 68 := by decide +kernel
theorem e_X3_readMine_68 : decode cX3_readMine 68 = .ok (.iconst 1, 1) ∧ 68 + 1 = 69 := by decide +kernel
theorem e_X3_readMine_69 : decode cX3_readMine 69 = .ok (.bipush 9, 2) ∧ 69 + 2 = 71 := by decide +kernel
theorem e_X3_readMine_71 : decode cX3_readMine 71 = .ok (.invokevirtual 81, 3) ∧ 71 + 3 = 74 := by decide +kernel
theorem e_X3_readMine_74 : decode cX3_readMine 74 = .ok (.putfield 98, 3) ∧ 74 + 3 = 77 := by decide +kernel
theorem e_X3_readMine_77 : decode cX3_readMine 77 = .ok (.aload_n 0, 1) ∧ 77 + 1 = 78 := by decide +kernel
theorem e_X3_readMine_78 : decode cX3_readMine 78 = .ok (.getfield 98, 3) ∧ 78 + 3 = 81 := by decide +kernel
theorem e_X3_readMine_81 : decode cX3_readMine 81 = .ok (.bipush (-9), 2) ∧ 81 + 2 = 83 := by decide +kernel
theorem e_X3_readMine_83 : decode cX3_readMine 83 = .ok (.if_icmp .ne 5, 3) ∧ 83 + 3 = 86 ∧ ((83 : Nat) : Int) + (5) = ((88 : Nat) : Int) := by decide +kernel
theorem e_X3_readMine_86 : decode cX3_readMine 86 = .ok (.iconst 1, 1) ∧ 86 + 1 = 87 := by decide +kernel
theorem e_X3_readMine_87 : decode cX3_readMine 87 = .ok (.ireturn, 1) := by decide +kernel
theorem e_X3_readMine_88 : decode cX3_readMine 88 = .ok (.aload_n 0, 1) ∧ 88 + 1 = 89 := by decide +kernel
theorem e_X3_readMine_89 : decode cX3_readMine 89 = .ok (.getfield 65, 3) ∧ 89 + 3 = 92 := by decide +kernel
theorem e_X3_readMine_92 : decode cX3_readMine 92 = .ok (.aload_n 0, 1) ∧ 92 + 1 = 93 := by decide +kernel
theorem e_X3_readMine_93 : decode cX3_readMine 93 = .ok (.getfield 62, 3) ∧ 93 + 3 = 96 := by decide +kernel
theorem e_X3_readMine_96 : decode cX3_readMine 96 = .ok (.if_icmp .ge 15, 3) ∧ 96 + 3 = 99 ∧ ((96 : Nat) : Int) + (15) = ((111 : Nat) : Int) := by decide +kernel
theorem e_X3_readMine_99 : decode cX3_readMine 99 = .ok (.aload_n 0, 1) ∧ 99 + 1 = 100 := by decide +kernel
theorem e_X3_readMine_100 : decode cX3_readMine 100 = .ok (.invokevirtual 101, 3) ∧ 100 + 3 = 103 := by decide +kernel
theorem e_X3_readMine_103 : decode cX3_readMine 103 = .ok (.ifCond .ne (-15), 3) ∧ 103 + 3 = 106 ∧ ((103 : Nat) : Int) + (-15) = ((88 : Nat) : Int) := by decide +kernel
theorem e_X3_readMine_106 : decode cX3_readMine 106 = .ok (.aload_n 0, 1) ∧ 106 + 1 = 107 := by decide +kernel
theorem e_X3_readMine_107 : decode cX3_readMine 107 = .ok (.getfield 65, 3) ∧ 107 + 3 = 110 := by decide +kernel
theorem e_X3_readMine_110 : decode cX3_readMine 110 = .ok (.ireturn, 1) := by decide +kernel
theorem e_X3_readMine_111 : decode cX3_readMine 111 = .ok (.bipush (-9), 2) ∧ 111 + 2 = 113 := by decide +kernel
theorem e_X3_readMine_113 : decode cX3_readMine 113 = .ok (.ireturn, 1) := by decide +kernel
theorem e_X3_fault_0 : decode cX3_fault 0 = .ok (.aload_n 0, 1) ∧ 0 + 1 = 1 := by decide +kernel
theorem e_X3_fault_1 : decode cX3_fault 1 = .ok (.iconst 0, 1) ∧ 1 + 1 = 2 := by decide +kernel
theorem e_X3_fault_2 : decode cX3_fault 2 = .ok (.putfield 48, 3) ∧ 2 + 3 = 5 := by decide +kernel
theorem e_X3_fault_5 : decode cX3_fault 5 = .ok (.aload_n 0, 1) ∧ 5 + 1 = 6 := by decide +kernel
theorem e_X3_fault_6 : decode cX3_fault 6 = .ok (.invokevirtual 104, 3) ∧ 6 + 3 = 9 := by decide +kernel
theorem e_X3_fault_9 : decode cX3_fault 9 = .ok (.ireturn, 1) := by decide +kernel
theorem e_X3_mine_0 : decode cX3_mine 0 = .ok (.aload_n 0, 1) ∧ 0 + 1 = 1 := by decide +kernel
theorem e_X3_mine_1 : decode cX3_mine 1 = .ok (.iconst 0, 1) ∧ 1 + 1 = 2 := by decide +kernel
theorem e_X3_mine_2 : decode cX3_mine 2 = .ok (.putfield 48, 3) ∧ 2 + 3 = 5 := by decide +kernel
theorem e_X3_mine_5 : decode cX3_mine 5 = .ok (.aload_n 0, 1) ∧ 5 + 1 = 6 := by decide +kernel
theorem e_X3_mine_6 : decode cX3_mine 6 = .ok (.invokevirtual 104, 3) ∧ 6 + 3 = 9 := by decide +kernel
theorem e_X3_mine_9 : decode cX3_mine 9 = .ok (.bipush (-9), 2) ∧ 9 + 2 = 11 := by decide +kernel
theorem e_X3_mine_11 : decode cX3_mine 11 = .ok (.if_icmp .eq 6, 3) ∧ 11 + 3 = 14 ∧ ((11 : Nat) : Int) + (6) = ((17 : Nat) : Int) := by decide +kernel
theorem e_X3_mine_14 : decode cX3_mine 14 = .ok (.bipush (-3), 2) ∧ 14 + 2 = 16 := by decide +kernel
theorem e_X3_mine_16 : decode cX3_mine 16 = .ok (.ireturn, 1) := by decide +kernel
theorem e_X3_mine_17 : decode cX3_mine 17 = .ok (.aload_n 0, 1) ∧ 17 + 1 = 18 := by decide +kernel
theorem e_X3_mine_18 : decode cX3_mine 18 = .ok (.aload_n 0, 1) ∧ 18 + 1 = 19 := by decide +kernel
theorem e_X3_mine_19 : decode cX3_mine 19 = .ok (.getfield 98, 3) ∧ 19 + 3 = 22 := by decide +kernel
theorem e_X3_mine_22 : decode cX3_mine 22 = .ok (.putfield 13, 3) ∧ 22 + 3 = 25 := by decide +kernel
theorem e_X3_mine_25 : decode cX3_mine 25 = .ok (.aload_n 0, 1) ∧ 25 + 1 = 26 := by decide +kernel
theorem e_X3_mine_26 : decode cX3_mine 26 = .ok (.aload_n 0, 1) ∧ 26 + 1 = 27 := by decide +kernel
theorem e_X3_mine_27 : decode cX3_mine 27 = .ok (.getfield 88, 3) ∧ 27 + 3 = 30 := by decide +kernel
theorem e_X3_mine_30 : decode cX3_mine 30 = .ok (.putfield 51, 3) ∧ 30 + 3 = 33 := by decide +kernel
theorem e_X3_mine_33 : decode cX3_mine 33 = .ok (.iconst 0, 1) ∧ 33 + 1 = 34 := by decide +kernel
theorem e_X3_mine_34 : decode cX3_mine 34 = .ok (.istore_n 1, 1) ∧ 34 + 1 = 35 := by decide +kernel
theorem e_X3_mine_35 : decode cX3_mine 35 = .ok (.iload_n 1, 1) ∧ 35 + 1 = 36 := by decide +kernel
theorem e_X3_mine_36 : decode cX3_mine 36 = .ok (.bipush 58, 2) ∧ 36 + 2 = 38 := by decide +kernel
theorem e_X3_mine_38 : decode cX3_mine 38 = .ok (.if_icmp .ge 21, 3) ∧ 38 + 3 = 41 ∧ ((38 : Nat) : Int) + (21) = ((59 : Nat) : Int) := by decide +kernel
theorem e_X3_mine_41 : decode cX3_mine 41 = .ok (.aload_n 0, 1) ∧ 41 + 1 = 42 := by decide +kernel
theorem e_X3_mine_42 : decode cX3_mine 42 = .ok (.getfield 20, 3) ∧ 42 + 3 = 45 := by decide +kernel
theorem e_X3_mine_45 : decode cX3_mine 45 = .ok (.iload_n 1, 1) ∧ 45 + 1 = 46 := by decide +kernel
theorem e_X3_mine_46 : decode cX3_mine 46 = .ok (.aload_n 0, 1) ∧ 46 + 1 = 47 := by decide +kernel
theorem e_X3_mine_47 : decode cX3_mine 47 = .ok (.getfield 23, 3) ∧ 47 + 3 = 50 := by decide +kernel
theorem e_X3_mine_50 : decode cX3_mine 50 = .ok (.iload_n 1, 1) ∧ 50 + 1 = 51 := by decide +kernel
theorem e_X3_mine_51 : decode cX3_mine 51 = .ok (.iaload, 1) ∧ 51 + 1 = 52 := by decide +kernel
theorem e_X3_mine_52 : decode cX3_mine 52 = .ok (.iastore, 1) ∧ 52 + 1 = 53 := by decide +kernel
theorem e_X3_mine_53 : decode cX3_mine 53 = .ok (.iinc 1 1, 3) ∧ 53 + 3 = 56 := by decide +kernel
theorem e_X3_mine_56 : decode cX3_mine 56 = .ok (.goto (-21), 3) ∧ 56 + 3 = 59 ∧ ((56 : Nat) : Int) + (-21) = ((35 : Nat) : Int) := by decide +kernel
theorem e_X3_mine_59 : decode cX3_mine 59 = .ok (.iconst 0, 1) ∧ 59 + 1 = 60 := by decide +kernel
theorem e_X3_mine_60 : decode cX3_mine 60 = .ok (.istore_n 1, 1) ∧ 60 + 1 = 61 := by decide +kernel
theorem e_X3_mine_61 : decode cX3_mine 61 = .ok (.iload_n 1, 1) ∧ 61 + 1 = 62 := by decide +kernel
theorem e_X3_mine_62 : decode cX3_mine 62 = .ok (.aload_n 0, 1) ∧ 62 + 1 = 63 := by decide +kernel
theorem e_X3_mine_63 : decode cX3_mine 63 = .ok (.getfield 51, 3) ∧ 63 + 3 = 66 := by decide +kernel
theorem e_X3_mine_66 : decode cX3_mine 66 = .ok (.if_icmp .ge 21, 3) ∧ 66 + 3 = 69 ∧ ((66 : Nat) : Int) + (21) = ((87 : Nat) : Int) := by decide +kernel
theorem e_X3_mine_69 : decode cX3_mine 69 = .ok (.aload_n 0, 1) ∧ 69 + 1 = 70 := by decide +kernel
theorem e_X3_mine_70 : decode cX3_mine 70 = .ok (.getfield 17, 3) ∧ 70 + 3 = 73 := by decide +kernel
theorem e_X3_mine_73 : decode cX3_mine 73 = .ok (.iload_n 1, 1) ∧ 73 + 1 = 74 := by decide +kernel
theorem e_X3_mine_74 : decode cX3_mine 74 = .ok (.aload_n 0, 1) ∧ 74 + 1 = 75 := by decide +kernel
theorem e_X3_mine_75 : decode cX3_mine 75 = .ok (.getfield 26, 3) ∧ 75 + 3 = 78 := by decide +kernel
theorem e_X3_mine_78 : decode cX3_mine 78 = .ok (.iload_n 1, 1) ∧ 78 + 1 = 79 := by decide +kernel
theorem e_X3_mine_79 : decode cX3_mine 79 = .ok (.iaload, 1) ∧ 79 + 1 = 80 := by decide +kernel
theorem e_X3_mine_80 : decode cX3_mine 80 = .ok (.iastore, 1) ∧ 80 + 1 = 81 := by decide +kernel
theorem e_X3_mine_81 : decode cX3_mine 81 = .ok (.iinc 1 1, 3) ∧ 81 + 3 = 84 := by decide +kernel
theorem e_X3_mine_84 : decode cX3_mine 84 = .ok (.goto (-23), 3) ∧ 84 + 3 = 87 ∧ ((84 : Nat) : Int) + (-23) = ((61 : Nat) : Int) := by decide +kernel
theorem e_X3_mine_87 : decode cX3_mine 87 = .ok (.aload_n 0, 1) ∧ 87 + 1 = 88 := by decide +kernel
theorem e_X3_mine_88 : decode cX3_mine 88 = .ok (.iconst 0, 1) ∧ 88 + 1 = 89 := by decide +kernel
theorem e_X3_mine_89 : decode cX3_mine 89 = .ok (.putfield 108, 3) ∧ 89 + 3 = 92 := by decide +kernel
theorem e_X3_mine_92 : decode cX3_mine 92 = .ok (.aload_n 0, 1) ∧ 92 + 1 = 93 := by decide +kernel
theorem e_X3_mine_93 : decode cX3_mine 93 = .ok (.getfield 35, 3) ∧ 93 + 3 = 96 := by decide +kernel
theorem e_X3_mine_96 : decode cX3_mine 96 = .ok (.iconst 0, 1) ∧ 96 + 1 = 97 := by decide +kernel
theorem e_X3_mine_97 : decode cX3_mine 97 = .ok (.iconst 0, 1) ∧ 97 + 1 = 98 := by decide +kernel
theorem e_X3_mine_98 : decode cX3_mine 98 = .ok (.bastore, 1) ∧ 98 + 1 = 99 := by decide +kernel
theorem e_X3_mine_99 : decode cX3_mine 99 = .ok (.aload_n 0, 1) ∧ 99 + 1 = 100 := by decide +kernel
theorem e_X3_mine_100 : decode cX3_mine 100 = .ok (.getfield 35, 3) ∧ 100 + 3 = 103 := by decide +kernel
theorem e_X3_mine_103 : decode cX3_mine 103 = .ok (.iconst 1, 1) ∧ 103 + 1 = 104 := by decide +kernel
theorem e_X3_mine_104 : decode cX3_mine 104 = .ok (.iconst 0, 1) ∧ 104 + 1 = 105 := by decide +kernel
theorem e_X3_mine_105 : decode cX3_mine 105 = .ok (.bastore, 1) ∧ 105 + 1 = 106 := by decide +kernel
theorem e_X3_mine_106 : decode cX3_mine 106 = .ok (.aload_n 0, 1) ∧ 106 + 1 = 107 := by decide +kernel
theorem e_X3_mine_107 : decode cX3_mine 107 = .ok (.getfield 51, 3) ∧ 107 + 3 = 110 := by decide +kernel
theorem e_X3_mine_110 : decode cX3_mine 110 = .ok (.ireturn, 1) := by decide +kernel
theorem e_X3_areNext_0 : decode cX3_areNext 0 = .ok (.iload_n 0, 1) ∧ 0 + 1 = 1 := by decide +kernel
theorem e_X3_areNext_1 : decode cX3_areNext 1 = .ok (.iconst 4, 1) ∧ 1 + 1 = 2 := by decide +kernel
theorem e_X3_areNext_2 : decode cX3_areNext 2 = .ok (.irem, 1) ∧ 2 + 1 = 3 := by decide +kernel
theorem e_X3_areNext_3 : decode cX3_areNext 3 = .ok (.iload_n 1, 1) ∧ 3 + 1 = 4 := by decide +kernel
theorem e_X3_areNext_4 : decode cX3_areNext 4 = .ok (.iconst 4, 1) ∧ 4 + 1 = 5 := by decide +kernel
theorem e_X3_areNext_5 : decode cX3_areNext 5 = .ok (.irem, 1) ∧ 5 + 1 = 6 := by decide +kernel
theorem e_X3_areNext_6 : decode cX3_areNext 6 = .ok (.isub, 1) ∧ 6 + 1 = 7 := by decide +kernel
theorem e_X3_areNext_7 : decode cX3_areNext 7 = .ok (.istore_n 2, 1) ∧ 7 + 1 = 8 := by decide +kernel
theorem e_X3_areNext_8 : decode cX3_areNext 8 = .ok (.iload_n 0, 1) ∧ 8 + 1 = 9 := by decide +kernel
theorem e_X3_areNext_9 : decode cX3_areNext 9 = .ok (.iconst 4, 1) ∧ 9 + 1 = 10 := by decide +kernel
theorem e_X3_areNext_10 : decode cX3_areNext 10 = .ok (.idiv, 1) ∧ 10 + 1 = 11 := by decide +kernel
theorem e_X3_areNext_11 : decode cX3_areNext 11 = .ok (.iload_n 1, 1) ∧ 11 + 1 = 12 := by decide +kernel
theorem e_X3_areNext_12 : decode cX3_areNext 12 = .ok (.iconst 4, 1) ∧ 12 + 1 = 13 := by decide +kernel
theorem e_X3_areNext_13 : decode cX3_areNext 13 = .ok (.idiv, 1) ∧ 13 + 1 = 14 := by decide +kernel
theorem e_X3_areNext_14 : decode cX3_areNext 14 = .ok (.isub, 1) ∧ 14 + 1 = 15 := by decide +kernel
theorem e_X3_areNext_15 : decode cX3_areNext 15 = .ok (.istore_n 3, 1) ∧ 15 + 1 = 16 := by decide +kernel
theorem e_X3_areNext_16 : decode cX3_areNext 16 = .ok (.iload_n 2, 1) ∧ 16 + 1 = 17 := by decide +kernel
theorem e_X3_areNext_17 : decode cX3_areNext 17 = .ok (.iload_n 2, 1) ∧ 17 + 1 = 18 := by decide +kernel
theorem e_X3_areNext_18 : decode cX3_areNext 18 = .ok (.imul, 1) ∧ 18 + 1 = 19 := by decide +kernel
theorem e_X3_areNext_19 : decode cX3_areNext 19 = .ok (.iload_n 3, 1) ∧ 19 + 1 = 20 := by decide +kernel
theorem e_X3_areNext_20 : decode cX3_areNext 20 = .ok (.iload_n 3, 1) ∧ 20 + 1 = 21 := by decide +kernel
theorem e_X3_areNext_21 : decode cX3_areNext 21 = .ok (.imul, 1) ∧ 21 + 1 = 22 := by decide +kernel
theorem e_X3_areNext_22 : decode cX3_areNext 22 = .ok (.iadd, 1) ∧ 22 + 1 = 23 := by decide +kernel
theorem e_X3_areNext_23 : decode cX3_areNext 23 = .ok (.iconst 1, 1) ∧ 23 + 1 = 24 := by decide +kernel
theorem e_X3_areNext_24 : decode cX3_areNext 24 = .ok (.if_icmp .ne 7, 3) ∧ 24 + 3 = 27 ∧ ((24 : Nat) : Int) + (7) = ((31 : Nat) : Int) := by decide +kernel
theorem e_X3_areNext_27 : decode cX3_areNext 27 = .ok (.iconst 1, 1) ∧ 27 + 1 = 28 := by decide +kernel
theorem e_X3_areNext_28 : decode cX3_areNext 28 = .ok (.goto 4, 3) ∧ 28 + 3 = 31 ∧ ((28 : Nat) : Int) + (4) = ((32 : Nat) : Int) := by decide +kernel
theorem e_X3_areNext_31 : decode cX3_areNext 31 = .ok (.iconst 0, 1) ∧ 31 + 1 = 32 := by decide +kernel
theorem e_X3_areNext_32 : decode cX3_areNext 32 = .ok (.ireturn, 1) := by decide +kernel
theorem e_X3_thereOf_0 : decode cX3_thereOf 0 = .ok (.iconst 0, 1) ∧ 0 + 1 = 1 := by decide +kernel
theorem e_X3_thereOf_1 : decode cX3_thereOf 1 = .ok (.istore_n 2, 1) ∧ 1 + 1 = 2 := by decide +kernel
theorem e_X3_thereOf_2 : decode cX3_thereOf 2 = .ok (.iconst 0, 1) ∧ 2 + 1 = 3 := by decide +kernel
theorem e_X3_thereOf_3 : decode cX3_thereOf 3 = .ok (.istore_n 3, 1) ∧ 3 + 1 = 4 := by decide +kernel
theorem e_X3_thereOf_4 : decode cX3_thereOf 4 = .ok (.iload_n 3, 1) ∧ 4 + 1 = 5 := by decide +kernel
theorem e_X3_thereOf_5 : decode cX3_thereOf 5 = .ok (.aload_n 0, 1) ∧ 5 + 1 = 6 := by decide +kernel
theorem e_X3_thereOf_6 : decode cX3_thereOf 6 = .ok (.getfield 51, 3) ∧ 6 + 3 = 9 := by decide +kernel
theorem e_X3_thereOf_9 : decode cX3_thereOf 9 = .ok (.if_icmp .ge 32, 3) ∧ 9 + 3 = 12 ∧ ((9 : Nat) : Int) + (32) = ((41 : Nat) : Int) := by decide +kernel
theorem e_X3_thereOf_12 : decode cX3_thereOf 12 = .ok (.iload_n 2, 1) ∧ 12 + 1 = 13 := by decide +kernel
theorem e_X3_thereOf_13 : decode cX3_thereOf 13 = .ok (.aload_n 0, 1) ∧ 13 + 1 = 14 := by decide +kernel
theorem e_X3_thereOf_14 : decode cX3_thereOf 14 = .ok (.getfield 20, 3) ∧ 14 + 3 = 17 := by decide +kernel
theorem e_X3_thereOf_17 : decode cX3_thereOf 17 = .ok (.bipush 49, 2) ∧ 17 + 2 = 19 := by decide +kernel
theorem e_X3_thereOf_19 : decode cX3_thereOf 19 = .ok (.iload_n 3, 1) ∧ 19 + 1 = 20 := by decide +kernel
theorem e_X3_thereOf_20 : decode cX3_thereOf 20 = .ok (.iadd, 1) ∧ 20 + 1 = 21 := by decide +kernel
theorem e_X3_thereOf_21 : decode cX3_thereOf 21 = .ok (.iaload, 1) ∧ 21 + 1 = 22 := by decide +kernel
theorem e_X3_thereOf_22 : decode cX3_thereOf 22 = .ok (.iload_n 1, 1) ∧ 22 + 1 = 23 := by decide +kernel
theorem e_X3_thereOf_23 : decode cX3_thereOf 23 = .ok (.if_icmp .ne 9, 3) ∧ 23 + 3 = 26 ∧ ((23 : Nat) : Int) + (9) = ((32 : Nat) : Int) := by decide +kernel
theorem e_X3_thereOf_26 : decode cX3_thereOf 26 = .ok (.iconst 1, 1) ∧ 26 + 1 = 27 := by decide +kernel
theorem e_X3_thereOf_27 : decode cX3_thereOf 27 = .ok (.iload_n 3, 1) ∧ 27 + 1 = 28 := by decide +kernel
theorem e_X3_thereOf_28 : decode cX3_thereOf 28 = .ok (.ishl, 1) ∧ 28 + 1 = 29 := by decide +kernel
theorem e_X3_thereOf_29 : decode cX3_thereOf 29 = .ok (.goto 4, 3) ∧ 29 + 3 = 32 ∧ ((29 : Nat) : Int) + (4) = ((33 : Nat) : Int) := by decide +kernel
theorem e_X3_thereOf_32 : decode cX3_thereOf 32 = .ok (.iconst 0, 1) ∧ 32 + 1 = 33 := by decide +kernel
theorem e_X3_thereOf_33 : decode cX3_thereOf 33 = .ok (.ior, 1) ∧ 33 + 1 = 34 := by decide +kernel
theorem e_X3_thereOf_34 : decode cX3_thereOf 34 = .ok (.istore_n 2, 1) ∧ 34 + 1 = 35 := by decide +kernel
theorem e_X3_thereOf_35 : decode cX3_thereOf 35 = .ok (.iinc 3 1, 3) ∧ 35 + 3 = 38 := by decide +kernel
theorem e_X3_thereOf_38 : decode cX3_thereOf 38 = .ok (.goto (-34), 3) ∧ 38 + 3 = 41 ∧ ((38 : Nat) : Int) + (-34) = ((4 : Nat) : Int) := by decide +kernel
theorem e_X3_thereOf_41 : decode cX3_thereOf 41 = .ok (.iload_n 2, 1) ∧ 41 + 1 = 42 := by decide +kernel
theorem e_X3_thereOf_42 : decode cX3_thereOf 42 = .ok (.ireturn, 1) := by decide +kernel
theorem e_X3_about_0 : decode cX3_about 0 = .ok (.aload_n 0, 1) ∧ 0 + 1 = 1 := by decide +kernel
theorem e_X3_about_1 : decode cX3_about 1 = .ok (.iconst 0, 1) ∧ 1 + 1 = 2 := by decide +kernel
theorem e_X3_about_2 : decode cX3_about 2 = .ok (.putfield 48, 3) ∧ 2 + 3 = 5 := by decide +kernel
theorem e_X3_about_5 : decode cX3_about 5 = .ok (.iconst 0, 1) ∧ 5 + 1 = 6 := by decide +kernel
theorem e_X3_about_6 : decode cX3_about 6 = .ok (.istore_n 2, 1) ∧ 6 + 1 = 7 := by decide +kernel
theorem e_X3_about_7 : decode cX3_about 7 = .ok (.iconst 0, 1) ∧ 7 + 1 = 8 := by decide +kernel
theorem e_X3_about_8 : decode cX3_about 8 = .ok (.istore_n 3, 1) ∧ 8 + 1 = 9 := by decide +kernel
theorem e_X3_about_9 : decode cX3_about 9 = .ok (.iload_n 3, 1) ∧ 9 + 1 = 10 := by decide +kernel
theorem e_X3_about_10 : decode cX3_about 10 = .ok (.bipush 12, 2) ∧ 10 + 2 = 12 := by decide +kernel
theorem e_X3_about_12 : decode cX3_about 12 = .ok (.if_icmp .ge 18, 3) ∧ 12 + 3 = 15 ∧ ((12 : Nat) : Int) + (18) = ((30 : Nat) : Int) := by decide +kernel
theorem e_X3_about_15 : decode cX3_about 15 = .ok (.iload_n 2, 1) ∧ 15 + 1 = 16 := by decide +kernel
theorem e_X3_about_16 : decode cX3_about 16 = .ok (.aload_n 0, 1) ∧ 16 + 1 = 17 := by decide +kernel
theorem e_X3_about_17 : decode cX3_about 17 = .ok (.getfield 20, 3) ∧ 17 + 3 = 20 := by decide +kernel
theorem e_X3_about_20 : decode cX3_about 20 = .ok (.iload_n 3, 1) ∧ 20 + 1 = 21 := by decide +kernel
theorem e_X3_about_21 : decode cX3_about 21 = .ok (.iaload, 1) ∧ 21 + 1 = 22 := by decide +kernel
theorem e_X3_about_22 : decode cX3_about 22 = .ok (.iadd, 1) ∧ 22 + 1 = 23 := by decide +kernel
theorem e_X3_about_23 : decode cX3_about 23 = .ok (.istore_n 2, 1) ∧ 23 + 1 = 24 := by decide +kernel
theorem e_X3_about_24 : decode cX3_about 24 = .ok (.iinc 3 1, 3) ∧ 24 + 3 = 27 := by decide +kernel
theorem e_X3_about_27 : decode cX3_about 27 = .ok (.goto (-18), 3) ∧ 27 + 3 = 30 ∧ ((27 : Nat) : Int) + (-18) = ((9 : Nat) : Int) := by decide +kernel
theorem e_X3_about_30 : decode cX3_about 30 = .ok (.iload_n 1, 1) ∧ 30 + 1 = 31 := by decide +kernel
theorem e_X3_about_31 : decode cX3_about 31 = .ok (.tableswitch 112 0 9 #[53, 58, 63, 71, 79, 87, 95, 97, 102, 107], 53) := by decide +kernel
theorem e_X3_about_84 : decode cX3_about 84 = .ok (.aload_n 0, 1) ∧ 84 + 1 = 85 := by decide +kernel
theorem e_X3_about_85 : decode cX3_about 85 = .ok (.getfield 13, 3) ∧ 85 + 3 = 88 := by decide +kernel
theorem e_X3_about_88 : decode cX3_about 88 = .ok (.ireturn, 1) := by decide +kernel
theorem e_X3_about_89 : decode cX3_about 89 = .ok (.aload_n 0, 1) ∧ 89 + 1 = 90 := by decide +kernel
theorem e_X3_about_90 : decode cX3_about 90 = .ok (.getfield 51, 3) ∧ 90 + 3 = 93 := by decide +kernel
theorem e_X3_about_93 : decode cX3_about 93 = .ok (.ireturn, 1) := by decide +kernel
theorem e_X3_about_94 : decode cX3_about 94 = .ok (.aload_n 0, 1) ∧ 94 + 1 = 95 := by decide +kernel
theorem e_X3_about_95 : decode cX3_about 95 = .ok (.getfield 20, 3) ∧ 95 + 3 = 98 := by decide +kernel
theorem e_X3_about_98 : decode cX3_about 98 = .ok (.bipush 55, 2) ∧ 98 + 2 = 100 := by decide +kernel
theorem e_X3_about_100 : decode cX3_about 100 = .ok (.iaload, 1) ∧ 100 + 1 = 101 := by decide +kernel
theorem e_X3_about_101 : decode cX3_about 101 = .ok (.ireturn, 1) := by decide +kernel
theorem e_X3_about_102 : decode cX3_about 102 = .ok (.aload_n 0, 1) ∧ 102 + 1 = 103 := by decide +kernel
theorem e_X3_about_103 : decode cX3_about 103 = .ok (.getfield 20, 3) ∧ 103 + 3 = 106 := by decide +kernel
theorem e_X3_about_106 : decode cX3_about 106 = .ok (.bipush 54, 2) ∧ 106 + 2 = 108 := by decide +kernel
theorem e_X3_about_108 : decode cX3_about 108 = .ok (.iaload, 1) ∧ 108 + 1 = 109 := by decide +kernel
theorem e_X3_about_109 : decode cX3_about 109 = .ok (.ireturn, 1) := by decide +kernel
theorem e_X3_about_110 : decode cX3_about 110 = .ok (.aload_n 0, 1) ∧ 110 + 1 = 111 := by decide +kernel
theorem e_X3_about_111 : decode cX3_about 111 = .ok (.getfield 20, 3) ∧ 111 + 3 = 114 := by decide +kernel
theorem e_X3_about_114 : decode cX3_about 114 = .ok (.bipush 48, 2) ∧ 114 + 2 = 116 := by decide +kernel
theorem e_X3_about_116 : decode cX3_about 116 = .ok (.iaload, 1) ∧ 116 + 1 = 117 := by decide +kernel
theorem e_X3_about_117 : decode cX3_about 117 = .ok (.ireturn, 1) := by decide +kernel
theorem e_X3_about_118 : decode cX3_about 118 = .ok (.aload_n 0, 1) ∧ 118 + 1 = 119 := by decide +kernel
theorem e_X3_about_119 : decode cX3_about 119 = .ok (.getfield 20, 3) ∧ 119 + 3 = 122 := by decide +kernel
theorem e_X3_about_122 : decode cX3_about 122 = .ok (.bipush 53, 2) ∧ 122 + 2 = 124 := by decide +kernel
theorem e_X3_about_124 : decode cX3_about 124 = .ok (.iaload, 1) ∧ 124 + 1 = 125 := by decide +kernel
theorem e_X3_about_125 : decode cX3_about 125 = .ok (.ireturn, 1) := by decide +kernel
theorem e_X3_about_126 : decode cX3_about 126 = .ok (.iload_n 2, 1) ∧ 126 + 1 = 127 := by decide +kernel
theorem e_X3_about_127 : decode cX3_about 127 = .ok (.ireturn, 1) := by decide +kernel
theorem e_X3_about_128 : decode cX3_about 128 = .ok (.aload_n 0, 1) ∧ 128 + 1 = 129 := by decide +kernel
theorem e_X3_about_129 : decode cX3_about 129 = .ok (.getfield 108, 3) ∧ 129 + 3 = 132 := by decide +kernel
theorem e_X3_about_132 : decode cX3_about 132 = .ok (.ireturn, 1) := by decide +kernel
theorem e_X3_about_133 : decode cX3_about 133 = .ok (.aload_n 0, 1) ∧ 133 + 1 = 134 := by decide +kernel
theorem e_X3_about_134 : decode cX3_about 134 = .ok (.getfield 111, 3) ∧ 134 + 3 = 137 := by decide +kernel
theorem e_X3_about_137 : decode cX3_about 137 = .ok (.ireturn, 1) := by decide +kernel
theorem e_X3_about_138 : decode cX3_about 138 = .ok (.aload_n 0, 1) ∧ 138 + 1 = 139 := by decide +kernel
theorem e_X3_about_139 : decode cX3_about 139 = .ok (.getfield 62, 3) ∧ 139 + 3 = 142 := by decide +kernel
theorem e_X3_about_142 : decode cX3_about 142 = .ok (.ireturn, 1) := by decide +kernel
theorem e_X3_about_143 : decode cX3_about 143 = .ok (.bipush (-2), 2) ∧ 143 + 2 = 145 := by decide +kernel
theorem e_X3_about_145 : decode cX3_about 145 = .ok (.ireturn, 1) := by decide +kernel
theorem e_X3_cell_0 : decode cX3_cell 0 = .ok (.aload_n 0, 1) ∧ 0 + 1 = 1 := by decide +kernel
theorem e_X3_cell_1 : decode cX3_cell 1 = .ok (.iconst 0, 1) ∧ 1 + 1 = 2 := by decide +kernel
theorem e_X3_cell_2 : decode cX3_cell 2 = .ok (.putfield 48, 3) ∧ 2 + 3 = 5 := by decide +kernel
theorem e_X3_cell_5 : decode cX3_cell 5 = .ok (.iload_n 1, 1) ∧ 5 + 1 = 6 := by decide +kernel
theorem e_X3_cell_6 : decode cX3_cell 6 = .ok (.invokestatic 114, 3) ∧ 6 + 3 = 9 := by decide +kernel
theorem e_X3_cell_9 : decode cX3_cell 9 = .ok (.ifCond .eq 5, 3) ∧ 9 + 3 = 12 ∧ ((9 : Nat) : Int) + (5) = ((14 : Nat) : Int) := by decide +kernel
theorem e_X3_cell_12 : decode cX3_cell 12 = .ok (.iconst (-1), 1) ∧ 12 + 1 = 13 := by decide +kernel
theorem e_X3_cell_13 : decode cX3_cell 13 = .ok (.ireturn, 1) := by decide +kernel
theorem e_X3_cell_14 : decode cX3_cell 14 = .ok (.iload_n 2, 1) ∧ 14 + 1 = 15 := by decide +kernel
theorem e_X3_cell_15 : decode cX3_cell 15 = .ok (.tableswitch 100 0 5 #[37, 44, 54, 64, 74, 94], 37) := by decide +kernel
theorem e_X3_cell_52 : decode cX3_cell 52 = .ok (.aload_n 0, 1) ∧ 52 + 1 = 53 := by decide +kernel
theorem e_X3_cell_53 : decode cX3_cell 53 = .ok (.getfield 20, 3) ∧ 53 + 3 = 56 := by decide +kernel
theorem e_X3_cell_56 : decode cX3_cell 56 = .ok (.iload_n 1, 1) ∧ 56 + 1 = 57 := by decide +kernel
theorem e_X3_cell_57 : decode cX3_cell 57 = .ok (.iaload, 1) ∧ 57 + 1 = 58 := by decide +kernel
theorem e_X3_cell_58 : decode cX3_cell 58 = .ok (.ireturn, 1) := by decide +kernel
theorem e_X3_cell_59 : decode cX3_cell 59 = .ok (.aload_n 0, 1) ∧ 59 + 1 = 60 := by decide +kernel
theorem e_X3_cell_60 : decode cX3_cell 60 = .ok (.getfield 20, 3) ∧ 60 + 3 = 63 := by decide +kernel
theorem e_X3_cell_63 : decode cX3_cell 63 = .ok (.bipush 12, 2) ∧ 63 + 2 = 65 := by decide +kernel
theorem e_X3_cell_65 : decode cX3_cell 65 = .ok (.iload_n 1, 1) ∧ 65 + 1 = 66 := by decide +kernel
theorem e_X3_cell_66 : decode cX3_cell 66 = .ok (.iadd, 1) ∧ 66 + 1 = 67 := by decide +kernel
theorem e_X3_cell_67 : decode cX3_cell 67 = .ok (.iaload, 1) ∧ 67 + 1 = 68 := by decide +kernel
theorem e_X3_cell_68 : decode cX3_cell 68 = .ok (.ireturn, 1) := by decide +kernel
theorem e_X3_cell_69 : decode cX3_cell 69 = .ok (.aload_n 0, 1) ∧ 69 + 1 = 70 := by decide +kernel
theorem e_X3_cell_70 : decode cX3_cell 70 = .ok (.getfield 20, 3) ∧ 70 + 3 = 73 := by decide +kernel
theorem e_X3_cell_73 : decode cX3_cell 73 = .ok (.bipush 24, 2) ∧ 73 + 2 = 75 := by decide +kernel
theorem e_X3_cell_75 : decode cX3_cell 75 = .ok (.iload_n 1, 1) ∧ 75 + 1 = 76 := by decide +kernel
theorem e_X3_cell_76 : decode cX3_cell 76 = .ok (.iadd, 1) ∧ 76 + 1 = 77 := by decide +kernel
theorem e_X3_cell_77 : decode cX3_cell 77 = .ok (.iaload, 1) ∧ 77 + 1 = 78 := by decide +kernel
theorem e_X3_cell_78 : decode cX3_cell 78 = .ok (.ireturn, 1) := by decide +kernel
theorem e_X3_cell_79 : decode cX3_cell 79 = .ok (.aload_n 0, 1) ∧ 79 + 1 = 80 := by decide +kernel
theorem e_X3_cell_80 : decode cX3_cell 80 = .ok (.getfield 20, 3) ∧ 80 + 3 = 83 := by decide +kernel
theorem e_X3_cell_83 : decode cX3_cell 83 = .ok (.bipush 36, 2) ∧ 83 + 2 = 85 := by decide +kernel
theorem e_X3_cell_85 : decode cX3_cell 85 = .ok (.iload_n 1, 1) ∧ 85 + 1 = 86 := by decide +kernel
theorem e_X3_cell_86 : decode cX3_cell 86 = .ok (.iadd, 1) ∧ 86 + 1 = 87 := by decide +kernel
theorem e_X3_cell_87 : decode cX3_cell 87 = .ok (.iaload, 1) ∧ 87 + 1 = 88 := by decide +kernel
theorem e_X3_cell_88 : decode cX3_cell 88 = .ok (.ireturn, 1) := by decide +kernel
theorem e_X3_cell_89 : decode cX3_cell 89 = .ok (.aload_n 0, 1) ∧ 89 + 1 = 90 := by decide +kernel
theorem e_X3_cell_90 : decode cX3_cell 90 = .ok (.getfield 20, 3) ∧ 90 + 3 = 93 := by decide +kernel
theorem e_X3_cell_93 : decode cX3_cell 93 = .ok (.bipush 48, 2) ∧ 93 + 2 = 95 := by decide +kernel
theorem e_X3_cell_95 : decode cX3_cell 95 = .ok (.iaload, 1) ∧ 95 + 1 = 96 := by decide +kernel
theorem e_X3_cell_96 : decode cX3_cell 96 = .ok (.iload_n 1, 1) ∧ 96 + 1 = 97 := by decide +kernel
theorem e_X3_cell_97 : decode cX3_cell 97 = .ok (.invokestatic 70, 3) ∧ 97 + 3 = 100 := by decide +kernel
theorem e_X3_cell_100 : decode cX3_cell 100 = .ok (.ifCond .eq 7, 3) ∧ 100 + 3 = 103 ∧ ((100 : Nat) : Int) + (7) = ((107 : Nat) : Int) := by decide +kernel
theorem e_X3_cell_103 : decode cX3_cell 103 = .ok (.iconst 1, 1) ∧ 103 + 1 = 104 := by decide +kernel
theorem e_X3_cell_104 : decode cX3_cell 104 = .ok (.goto 4, 3) ∧ 104 + 3 = 107 ∧ ((104 : Nat) : Int) + (4) = ((108 : Nat) : Int) := by decide +kernel
theorem e_X3_cell_107 : decode cX3_cell 107 = .ok (.iconst 0, 1) ∧ 107 + 1 = 108 := by decide +kernel
theorem e_X3_cell_108 : decode cX3_cell 108 = .ok (.ireturn, 1) := by decide +kernel
theorem e_X3_cell_109 : decode cX3_cell 109 = .ok (.aload_n 0, 1) ∧ 109 + 1 = 110 := by decide +kernel
theorem e_X3_cell_110 : decode cX3_cell 110 = .ok (.iload_n 1, 1) ∧ 110 + 1 = 111 := by decide +kernel
theorem e_X3_cell_111 : decode cX3_cell 111 = .ok (.invokevirtual 118, 3) ∧ 111 + 3 = 114 := by decide +kernel
theorem e_X3_cell_114 : decode cX3_cell 114 = .ok (.ireturn, 1) := by decide +kernel
theorem e_X3_cell_115 : decode cX3_cell 115 = .ok (.bipush (-2), 2) ∧ 115 + 2 = 117 := by decide +kernel
theorem e_X3_cell_117 : decode cX3_cell 117 = .ok (.ireturn, 1) := by decide +kernel
theorem e_X3_timesOf_0 : decode cX3_timesOf 0 = .ok (.iconst 1, 1) ∧ 0 + 1 = 1 := by decide +kernel
theorem e_X3_timesOf_1 : decode cX3_timesOf 1 = .ok (.istore_n 3, 1) ∧ 1 + 1 = 2 := by decide +kernel
theorem e_X3_timesOf_2 : decode cX3_timesOf 2 = .ok (.iconst 0, 1) ∧ 2 + 1 = 3 := by decide +kernel
theorem e_X3_timesOf_3 : decode cX3_timesOf 3 = .ok (.istore 4, 2) ∧ 3 + 2 = 5 := by decide +kernel
theorem e_X3_timesOf_5 : decode cX3_timesOf 5 = .ok (.iload 4, 2) ∧ 5 + 2 = 7 := by decide +kernel
theorem e_X3_timesOf_7 : decode cX3_timesOf 7 = .ok (.aload_n 0, 1) ∧ 7 + 1 = 8 := by decide +kernel
theorem e_X3_timesOf_8 : decode cX3_timesOf 8 = .ok (.getfield 51, 3) ∧ 8 + 3 = 11 := by decide +kernel
theorem e_X3_timesOf_11 : decode cX3_timesOf 11 = .ok (.if_icmp .ge 90, 3) ∧ 11 + 3 = 14 ∧ ((11 : Nat) : Int) + (90) = ((101 : Nat) : Int) := by decide +kernel
theorem e_X3_timesOf_14 : decode cX3_timesOf 14 = .ok (.aload_n 1, 1) ∧ 14 + 1 = 15 := by decide +kernel
theorem e_X3_timesOf_15 : decode cX3_timesOf 15 = .ok (.bipush 49, 2) ∧ 15 + 2 = 17 := by decide +kernel
theorem e_X3_timesOf_17 : decode cX3_timesOf 17 = .ok (.iload 4, 2) ∧ 17 + 2 = 19 := by decide +kernel
theorem e_X3_timesOf_19 : decode cX3_timesOf 19 = .ok (.iadd, 1) ∧ 19 + 1 = 20 := by decide +kernel
theorem e_X3_timesOf_20 : decode cX3_timesOf 20 = .ok (.iaload, 1) ∧ 20 + 1 = 21 := by decide +kernel
theorem e_X3_timesOf_21 : decode cX3_timesOf 21 = .ok (.aload_n 1, 1) ∧ 21 + 1 = 22 := by decide +kernel
theorem e_X3_timesOf_22 : decode cX3_timesOf 22 = .ok (.bipush 49, 2) ∧ 22 + 2 = 24 := by decide +kernel
theorem e_X3_timesOf_24 : decode cX3_timesOf 24 = .ok (.iload_n 2, 1) ∧ 24 + 1 = 25 := by decide +kernel
theorem e_X3_timesOf_25 : decode cX3_timesOf 25 = .ok (.iadd, 1) ∧ 25 + 1 = 26 := by decide +kernel
theorem e_X3_timesOf_26 : decode cX3_timesOf 26 = .ok (.iaload, 1) ∧ 26 + 1 = 27 := by decide +kernel
theorem e_X3_timesOf_27 : decode cX3_timesOf 27 = .ok (.if_icmp .eq 22, 3) ∧ 27 + 3 = 30 ∧ ((27 : Nat) : Int) + (22) = ((49 : Nat) : Int) := by decide +kernel
theorem e_X3_timesOf_30 : decode cX3_timesOf 30 = .ok (.aload_n 1, 1) ∧ 30 + 1 = 31 := by decide +kernel
theorem e_X3_timesOf_31 : decode cX3_timesOf 31 = .ok (.bipush 49, 2) ∧ 31 + 2 = 33 := by decide +kernel
theorem e_X3_timesOf_33 : decode cX3_timesOf 33 = .ok (.iload 4, 2) ∧ 33 + 2 = 35 := by decide +kernel
theorem e_X3_timesOf_35 : decode cX3_timesOf 35 = .ok (.iadd, 1) ∧ 35 + 1 = 36 := by decide +kernel
theorem e_X3_timesOf_36 : decode cX3_timesOf 36 = .ok (.iaload, 1) ∧ 36 + 1 = 37 := by decide +kernel
theorem e_X3_timesOf_37 : decode cX3_timesOf 37 = .ok (.aload_n 1, 1) ∧ 37 + 1 = 38 := by decide +kernel
theorem e_X3_timesOf_38 : decode cX3_timesOf 38 = .ok (.bipush 49, 2) ∧ 38 + 2 = 40 := by decide +kernel
theorem e_X3_timesOf_40 : decode cX3_timesOf 40 = .ok (.iload_n 2, 1) ∧ 40 + 1 = 41 := by decide +kernel
theorem e_X3_timesOf_41 : decode cX3_timesOf 41 = .ok (.iadd, 1) ∧ 41 + 1 = 42 := by decide +kernel
theorem e_X3_timesOf_42 : decode cX3_timesOf 42 = .ok (.iaload, 1) ∧ 42 + 1 = 43 := by decide +kernel
theorem e_X3_timesOf_43 : decode cX3_timesOf 43 = .ok (.invokestatic 121, 3) ∧ 43 + 3 = 46 := by decide +kernel
theorem e_X3_timesOf_46 : decode cX3_timesOf 46 = .ok (.ifCond .eq 7, 3) ∧ 46 + 3 = 49 ∧ ((46 : Nat) : Int) + (7) = ((53 : Nat) : Int) := by decide +kernel
theorem e_X3_timesOf_49 : decode cX3_timesOf 49 = .ok (.iconst 1, 1) ∧ 49 + 1 = 50 := by decide +kernel
theorem e_X3_timesOf_50 : decode cX3_timesOf 50 = .ok (.goto 4, 3) ∧ 50 + 3 = 53 ∧ ((50 : Nat) : Int) + (4) = ((54 : Nat) : Int) := by decide +kernel
theorem e_X3_timesOf_53 : decode cX3_timesOf 53 = .ok (.iconst 0, 1) ∧ 53 + 1 = 54 := by decide +kernel
theorem e_X3_timesOf_54 : decode cX3_timesOf 54 = .ok (.istore 5, 2) ∧ 54 + 2 = 56 := by decide +kernel
theorem e_X3_timesOf_56 : decode cX3_timesOf 56 = .ok (.aload_n 1, 1) ∧ 56 + 1 = 57 := by decide +kernel
theorem e_X3_timesOf_57 : decode cX3_timesOf 57 = .ok (.bipush 53, 2) ∧ 57 + 2 = 59 := by decide +kernel
theorem e_X3_timesOf_59 : decode cX3_timesOf 59 = .ok (.iaload, 1) ∧ 59 + 1 = 60 := by decide +kernel
theorem e_X3_timesOf_60 : decode cX3_timesOf 60 = .ok (.iload 4, 2) ∧ 60 + 2 = 62 := by decide +kernel
theorem e_X3_timesOf_62 : decode cX3_timesOf 62 = .ok (.invokestatic 70, 3) ∧ 62 + 3 = 65 := by decide +kernel
theorem e_X3_timesOf_65 : decode cX3_timesOf 65 = .ok (.ifCond .ne 28, 3) ∧ 65 + 3 = 68 ∧ ((65 : Nat) : Int) + (28) = ((93 : Nat) : Int) := by decide +kernel
theorem e_X3_timesOf_68 : decode cX3_timesOf 68 = .ok (.aload_n 0, 1) ∧ 68 + 1 = 69 := by decide +kernel
theorem e_X3_timesOf_69 : decode cX3_timesOf 69 = .ok (.getfield 17, 3) ∧ 69 + 3 = 72 := by decide +kernel
theorem e_X3_timesOf_72 : decode cX3_timesOf 72 = .ok (.iload 4, 2) ∧ 72 + 2 = 74 := by decide +kernel
theorem e_X3_timesOf_74 : decode cX3_timesOf 74 = .ok (.iaload, 1) ∧ 74 + 1 = 75 := by decide +kernel
theorem e_X3_timesOf_75 : decode cX3_timesOf 75 = .ok (.aload_n 0, 1) ∧ 75 + 1 = 76 := by decide +kernel
theorem e_X3_timesOf_76 : decode cX3_timesOf 76 = .ok (.getfield 17, 3) ∧ 76 + 3 = 79 := by decide +kernel
theorem e_X3_timesOf_79 : decode cX3_timesOf 79 = .ok (.iload_n 2, 1) ∧ 79 + 1 = 80 := by decide +kernel
theorem e_X3_timesOf_80 : decode cX3_timesOf 80 = .ok (.iaload, 1) ∧ 80 + 1 = 81 := by decide +kernel
theorem e_X3_timesOf_81 : decode cX3_timesOf 81 = .ok (.if_icmp .eq 12, 3) ∧ 81 + 3 = 84 ∧ ((81 : Nat) : Int) + (12) = ((93 : Nat) : Int) := by decide +kernel
theorem e_X3_timesOf_84 : decode cX3_timesOf 84 = .ok (.iload 5, 2) ∧ 84 + 2 = 86 := by decide +kernel
theorem e_X3_timesOf_86 : decode cX3_timesOf 86 = .ok (.ifCond .eq 7, 3) ∧ 86 + 3 = 89 ∧ ((86 : Nat) : Int) + (7) = ((93 : Nat) : Int) := by decide +kernel
theorem e_X3_timesOf_89 : decode cX3_timesOf 89 = .ok (.iconst 2, 1) ∧ 89 + 1 = 90 := by decide +kernel
theorem e_X3_timesOf_90 : decode cX3_timesOf 90 = .ok (.goto 4, 3) ∧ 90 + 3 = 93 ∧ ((90 : Nat) : Int) + (4) = ((94 : Nat) : Int) := by decide +kernel
theorem e_X3_timesOf_93 : decode cX3_timesOf 93 = .ok (.iload_n 3, 1) ∧ 93 + 1 = 94 := by decide +kernel
theorem e_X3_timesOf_94 : decode cX3_timesOf 94 = .ok (.istore_n 3, 1) ∧ 94 + 1 = 95 := by decide +kernel
theorem e_X3_timesOf_95 : decode cX3_timesOf 95 = .ok (.iinc 4 1, 3) ∧ 95 + 3 = 98 := by decide +kernel
theorem e_X3_timesOf_98 : decode cX3_timesOf 98 = .ok (.goto (-93), 3) ∧ 98 + 3 = 101 ∧ ((98 : Nat) : Int) + (-93) = ((5 : Nat) : Int) := by decide +kernel
theorem e_X3_timesOf_101 : decode cX3_timesOf 101 = .ok (.iload_n 3, 1) ∧ 101 + 1 = 102 := by decide +kernel
theorem e_X3_timesOf_102 : decode cX3_timesOf 102 = .ok (.ireturn, 1) := by decide +kernel
theorem e_X3_monk_0 : decode cX3_monk 0 = .ok (.aload_n 0, 1) ∧ 0 + 1 = 1 := by decide +kernel
theorem e_X3_monk_1 : decode cX3_monk 1 = .ok (.iconst 0, 1) ∧ 1 + 1 = 2 := by decide +kernel
theorem e_X3_monk_2 : decode cX3_monk 2 = .ok (.putfield 48, 3) ∧ 2 + 3 = 5 := by decide +kernel
theorem e_X3_monk_5 : decode cX3_monk 5 = .ok (.aload_n 0, 1) ∧ 5 + 1 = 6 := by decide +kernel
theorem e_X3_monk_6 : decode cX3_monk 6 = .ok (.iload_n 1, 1) ∧ 6 + 1 = 7 := by decide +kernel
theorem e_X3_monk_7 : decode cX3_monk 7 = .ok (.invokevirtual 124, 3) ∧ 7 + 3 = 10 := by decide +kernel
theorem e_X3_monk_10 : decode cX3_monk 10 = .ok (.ifCond .eq 5, 3) ∧ 10 + 3 = 13 ∧ ((10 : Nat) : Int) + (5) = ((15 : Nat) : Int) := by decide +kernel
theorem e_X3_monk_13 : decode cX3_monk 13 = .ok (.iconst (-1), 1) ∧ 13 + 1 = 14 := by decide +kernel
theorem e_X3_monk_14 : decode cX3_monk 14 = .ok (.ireturn, 1) := by decide +kernel
theorem e_X3_monk_15 : decode cX3_monk 15 = .ok (.aload_n 0, 1) ∧ 15 + 1 = 16 := by decide +kernel
theorem e_X3_monk_16 : decode cX3_monk 16 = .ok (.getfield 20, 3) ∧ 16 + 3 = 19 := by decide +kernel
theorem e_X3_monk_19 : decode cX3_monk 19 = .ok (.bipush 53, 2) ∧ 19 + 2 = 21 := by decide +kernel
theorem e_X3_monk_21 : decode cX3_monk 21 = .ok (.iaload, 1) ∧ 21 + 1 = 22 := by decide +kernel
theorem e_X3_monk_22 : decode cX3_monk 22 = .ok (.iload_n 1, 1) ∧ 22 + 1 = 23 := by decide +kernel
theorem e_X3_monk_23 : decode cX3_monk 23 = .ok (.invokestatic 70, 3) ∧ 23 + 3 = 26 := by decide +kernel
theorem e_X3_monk_26 : decode cX3_monk 26 = .ok (.istore_n 3, 1) ∧ 26 + 1 = 27 := by decide +kernel
theorem e_X3_monk_27 : decode cX3_monk 27 = .ok (.iload_n 2, 1) ∧ 27 + 1 = 28 := by decide +kernel
theorem e_X3_monk_28 : decode cX3_monk 28 = .ok (.tableswitch 77 0 3 #[32, 42, 49, 59], 32) := by decide +kernel
theorem e_X3_monk_60 : decode cX3_monk 60 = .ok (.aload_n 0, 1) ∧ 60 + 1 = 61 := by decide +kernel
theorem e_X3_monk_61 : decode cX3_monk 61 = .ok (.getfield 20, 3) ∧ 61 + 3 = 64 := by decide +kernel
theorem e_X3_monk_64 : decode cX3_monk 64 = .ok (.bipush 49, 2) ∧ 64 + 2 = 66 := by decide +kernel
theorem e_X3_monk_66 : decode cX3_monk 66 = .ok (.iload_n 1, 1) ∧ 66 + 1 = 67 := by decide +kernel
theorem e_X3_monk_67 : decode cX3_monk 67 = .ok (.iadd, 1) ∧ 67 + 1 = 68 := by decide +kernel
theorem e_X3_monk_68 : decode cX3_monk 68 = .ok (.iaload, 1) ∧ 68 + 1 = 69 := by decide +kernel
theorem e_X3_monk_69 : decode cX3_monk 69 = .ok (.ireturn, 1) := by decide +kernel
theorem e_X3_monk_70 : decode cX3_monk 70 = .ok (.aload_n 0, 1) ∧ 70 + 1 = 71 := by decide +kernel
theorem e_X3_monk_71 : decode cX3_monk 71 = .ok (.getfield 17, 3) ∧ 71 + 3 = 74 := by decide +kernel
theorem e_X3_monk_74 : decode cX3_monk 74 = .ok (.iload_n 1, 1) ∧ 74 + 1 = 75 := by decide +kernel
theorem e_X3_monk_75 : decode cX3_monk 75 = .ok (.iaload, 1) ∧ 75 + 1 = 76 := by decide +kernel
theorem e_X3_monk_76 : decode cX3_monk 76 = .ok (.ireturn, 1) := by decide +kernel
theorem e_X3_monk_77 : decode cX3_monk 77 = .ok (.iload_n 3, 1) ∧ 77 + 1 = 78 := by decide +kernel
theorem e_X3_monk_78 : decode cX3_monk 78 = .ok (.ifCond .eq 7, 3) ∧ 78 + 3 = 81 ∧ ((78 : Nat) : Int) + (7) = ((85 : Nat) : Int) := by decide +kernel
theorem e_X3_monk_81 : decode cX3_monk 81 = .ok (.iconst 1, 1) ∧ 81 + 1 = 82 := by decide +kernel
theorem e_X3_monk_82 : decode cX3_monk 82 = .ok (.goto 4, 3) ∧ 82 + 3 = 85 ∧ ((82 : Nat) : Int) + (4) = ((86 : Nat) : Int) := by decide +kernel
theorem e_X3_monk_85 : decode cX3_monk 85 = .ok (.iconst 0, 1) ∧ 85 + 1 = 86 := by decide +kernel
theorem e_X3_monk_86 : decode cX3_monk 86 = .ok (.ireturn, 1) := by decide +kernel
theorem e_X3_monk_87 : decode cX3_monk 87 = .ok (.iload_n 3, 1) ∧ 87 + 1 = 88 := by decide +kernel
theorem e_X3_monk_88 : decode cX3_monk 88 = .ok (.ifCond .eq 7, 3) ∧ 88 + 3 = 91 ∧ ((88 : Nat) : Int) + (7) = ((95 : Nat) : Int) := by decide +kernel
theorem e_X3_monk_91 : decode cX3_monk 91 = .ok (.iconst 0, 1) ∧ 91 + 1 = 92 := by decide +kernel
theorem e_X3_monk_92 : decode cX3_monk 92 = .ok (.goto 12, 3) ∧ 92 + 3 = 95 ∧ ((92 : Nat) : Int) + (12) = ((104 : Nat) : Int) := by decide +kernel
theorem e_X3_monk_95 : decode cX3_monk 95 = .ok (.aload_n 0, 1) ∧ 95 + 1 = 96 := by decide +kernel
theorem e_X3_monk_96 : decode cX3_monk 96 = .ok (.aload_n 0, 1) ∧ 96 + 1 = 97 := by decide +kernel
theorem e_X3_monk_97 : decode cX3_monk 97 = .ok (.getfield 20, 3) ∧ 97 + 3 = 100 := by decide +kernel
theorem e_X3_monk_100 : decode cX3_monk 100 = .ok (.iload_n 1, 1) ∧ 100 + 1 = 101 := by decide +kernel
theorem e_X3_monk_101 : decode cX3_monk 101 = .ok (.invokevirtual 127, 3) ∧ 101 + 3 = 104 := by decide +kernel
theorem e_X3_monk_104 : decode cX3_monk 104 = .ok (.ireturn, 1) := by decide +kernel
theorem e_X3_monk_105 : decode cX3_monk 105 = .ok (.bipush (-2), 2) ∧ 105 + 2 = 107 := by decide +kernel
theorem e_X3_monk_107 : decode cX3_monk 107 = .ok (.ireturn, 1) := by decide +kernel
theorem e_X3_note_0 : decode cX3_note 0 = .ok (.aload_n 0, 1) ∧ 0 + 1 = 1 := by decide +kernel
theorem e_X3_note_1 : decode cX3_note 1 = .ok (.getfield 108, 3) ∧ 1 + 3 = 4 := by decide +kernel
theorem e_X3_note_4 : decode cX3_note 4 = .ok (.bipush 14, 2) ∧ 4 + 2 = 6 := by decide +kernel
theorem e_X3_note_6 : decode cX3_note 6 = .ok (.if_icmp .ne 43, 3) ∧ 6 + 3 = 9 ∧ ((6 : Nat) : Int) + (43) = ((49 : Nat) : Int) := by decide +kernel
theorem e_X3_note_9 : decode cX3_note 9 = .ok (.iconst 0, 1) ∧ 9 + 1 = 10 := by decide +kernel
theorem e_X3_note_10 : decode cX3_note 10 = .ok (.istore_n 1, 1) ∧ 10 + 1 = 11 := by decide +kernel
theorem e_X3_note_11 : decode cX3_note 11 = .ok (.iload_n 1, 1) ∧ 11 + 1 = 12 := by decide +kernel
theorem e_X3_note_12 : decode cX3_note 12 = .ok (.sipush 754, 3) ∧ 12 + 3 = 15 := by decide +kernel
theorem e_X3_note_15 : decode cX3_note 15 = .ok (.if_icmp .ge 24, 3) ∧ 15 + 3 = 18 ∧ ((15 : Nat) : Int) + (24) = ((39 : Nat) : Int) := by decide +kernel
theorem e_X3_note_18 : decode cX3_note 18 = .ok (.aload_n 0, 1) ∧ 18 + 1 = 19 := by decide +kernel
theorem e_X3_note_19 : decode cX3_note 19 = .ok (.getfield 29, 3) ∧ 19 + 3 = 22 := by decide +kernel
theorem e_X3_note_22 : decode cX3_note 22 = .ok (.iload_n 1, 1) ∧ 22 + 1 = 23 := by decide +kernel
theorem e_X3_note_23 : decode cX3_note 23 = .ok (.aload_n 0, 1) ∧ 23 + 1 = 24 := by decide +kernel
theorem e_X3_note_24 : decode cX3_note 24 = .ok (.getfield 29, 3) ∧ 24 + 3 = 27 := by decide +kernel
theorem e_X3_note_27 : decode cX3_note 27 = .ok (.iload_n 1, 1) ∧ 27 + 1 = 28 := by decide +kernel
theorem e_X3_note_28 : decode cX3_note 28 = .ok (.bipush 58, 2) ∧ 28 + 2 = 30 := by decide +kernel
theorem e_X3_note_30 : decode cX3_note 30 = .ok (.iadd, 1) ∧ 30 + 1 = 31 := by decide +kernel
theorem e_X3_note_31 : decode cX3_note 31 = .ok (.iaload, 1) ∧ 31 + 1 = 32 := by decide +kernel
theorem e_X3_note_32 : decode cX3_note 32 = .ok (.iastore, 1) ∧ 32 + 1 = 33 := by decide +kernel
theorem e_X3_note_33 : decode cX3_note 33 = .ok (.iinc 1 1, 3) ∧ 33 + 3 = 36 := by decide +kernel
theorem e_X3_note_36 : decode cX3_note 36 = .ok (.goto (-25), 3) ∧ 36 + 3 = 39 ∧ ((36 : Nat) : Int) + (-25) = ((11 : Nat) : Int) := by decide +kernel
theorem e_X3_note_39 : decode cX3_note 39 = .ok (.aload_n 0, 1) ∧ 39 + 1 = 40 := by decide +kernel
theorem e_X3_note_40 : decode cX3_note 40 = .ok (.dup, 1) ∧ 40 + 1 = 41 := by decide +kernel
theorem e_X3_note_41 : decode cX3_note 41 = .ok (.getfield 108, 3) ∧ 41 + 3 = 44 := by decide +kernel
theorem e_X3_note_44 : decode cX3_note 44 = .ok (.iconst 1, 1) ∧ 44 + 1 = 45 := by decide +kernel
theorem e_X3_note_45 : decode cX3_note 45 = .ok (.isub, 1) ∧ 45 + 1 = 46 := by decide +kernel
theorem e_X3_note_46 : decode cX3_note 46 = .ok (.putfield 108, 3) ∧ 46 + 3 = 49 := by decide +kernel
theorem e_X3_note_49 : decode cX3_note 49 = .ok (.iconst 0, 1) ∧ 49 + 1 = 50 := by decide +kernel
theorem e_X3_note_50 : decode cX3_note 50 = .ok (.istore_n 1, 1) ∧ 50 + 1 = 51 := by decide +kernel
theorem e_X3_note_51 : decode cX3_note 51 = .ok (.iload_n 1, 1) ∧ 51 + 1 = 52 := by decide +kernel
theorem e_X3_note_52 : decode cX3_note 52 = .ok (.bipush 58, 2) ∧ 52 + 2 = 54 := by decide +kernel
theorem e_X3_note_54 : decode cX3_note 54 = .ok (.if_icmp .ge 29, 3) ∧ 54 + 3 = 57 ∧ ((54 : Nat) : Int) + (29) = ((83 : Nat) : Int) := by decide +kernel
theorem e_X3_note_57 : decode cX3_note 57 = .ok (.aload_n 0, 1) ∧ 57 + 1 = 58 := by decide +kernel
theorem e_X3_note_58 : decode cX3_note 58 = .ok (.getfield 29, 3) ∧ 58 + 3 = 61 := by decide +kernel
theorem e_X3_note_61 : decode cX3_note 61 = .ok (.bipush 58, 2) ∧ 61 + 2 = 63 := by decide +kernel
theorem e_X3_note_63 : decode cX3_note 63 = .ok (.aload_n 0, 1) ∧ 63 + 1 = 64 := by decide +kernel
theorem e_X3_note_64 : decode cX3_note 64 = .ok (.getfield 108, 3) ∧ 64 + 3 = 67 := by decide +kernel
theorem e_X3_note_67 : decode cX3_note 67 = .ok (.imul, 1) ∧ 67 + 1 = 68 := by decide +kernel
theorem e_X3_note_68 : decode cX3_note 68 = .ok (.iload_n 1, 1) ∧ 68 + 1 = 69 := by decide +kernel
theorem e_X3_note_69 : decode cX3_note 69 = .ok (.iadd, 1) ∧ 69 + 1 = 70 := by decide +kernel
theorem e_X3_note_70 : decode cX3_note 70 = .ok (.aload_n 0, 1) ∧ 70 + 1 = 71 := by decide +kernel
theorem e_X3_note_71 : decode cX3_note 71 = .ok (.getfield 20, 3) ∧ 71 + 3 = 74 := by decide +kernel
theorem e_X3_note_74 : decode cX3_note 74 = .ok (.iload_n 1, 1) ∧ 74 + 1 = 75 := by decide +kernel
theorem e_X3_note_75 : decode cX3_note 75 = .ok (.iaload, 1) ∧ 75 + 1 = 76 := by decide +kernel
theorem e_X3_note_76 : decode cX3_note 76 = .ok (.iastore, 1) ∧ 76 + 1 = 77 := by decide +kernel
theorem e_X3_note_77 : decode cX3_note 77 = .ok (.iinc 1 1, 3) ∧ 77 + 3 = 80 := by decide +kernel
theorem e_X3_note_80 : decode cX3_note 80 = .ok (.goto (-29), 3) ∧ 80 + 3 = 83 ∧ ((80 : Nat) : Int) + (-29) = ((51 : Nat) : Int) := by decide +kernel
theorem e_X3_note_83 : decode cX3_note 83 = .ok (.aload_n 0, 1) ∧ 83 + 1 = 84 := by decide +kernel
theorem e_X3_note_84 : decode cX3_note 84 = .ok (.dup, 1) ∧ 84 + 1 = 85 := by decide +kernel
theorem e_X3_note_85 : decode cX3_note 85 = .ok (.getfield 108, 3) ∧ 85 + 3 = 88 := by decide +kernel
theorem e_X3_note_88 : decode cX3_note 88 = .ok (.iconst 1, 1) ∧ 88 + 1 = 89 := by decide +kernel
theorem e_X3_note_89 : decode cX3_note 89 = .ok (.iadd, 1) ∧ 89 + 1 = 90 := by decide +kernel
theorem e_X3_note_90 : decode cX3_note 90 = .ok (.putfield 108, 3) ∧ 90 + 3 = 93 := by decide +kernel
theorem e_X3_note_93 : decode cX3_note 93 = .ok (.return_, 1) := by decide +kernel
theorem e_X3_loosen_0 : decode cX3_loosen 0 = .ok (.aload_n 0, 1) ∧ 0 + 1 = 1 := by decide +kernel
theorem e_X3_loosen_1 : decode cX3_loosen 1 = .ok (.bipush 48, 2) ∧ 1 + 2 = 3 := by decide +kernel
theorem e_X3_loosen_3 : decode cX3_loosen 3 = .ok (.iaload, 1) ∧ 3 + 1 = 4 := by decide +kernel
theorem e_X3_loosen_4 : decode cX3_loosen 4 = .ok (.iload_n 1, 1) ∧ 4 + 1 = 5 := by decide +kernel
theorem e_X3_loosen_5 : decode cX3_loosen 5 = .ok (.invokestatic 70, 3) ∧ 5 + 3 = 8 := by decide +kernel
theorem e_X3_loosen_8 : decode cX3_loosen 8 = .ok (.ifCond .ne 35, 3) ∧ 8 + 3 = 11 ∧ ((8 : Nat) : Int) + (35) = ((43 : Nat) : Int) := by decide +kernel
theorem e_X3_loosen_11 : decode cX3_loosen 11 = .ok (.aload_n 0, 1) ∧ 11 + 1 = 12 := by decide +kernel
theorem e_X3_loosen_12 : decode cX3_loosen 12 = .ok (.bipush 12, 2) ∧ 12 + 2 = 14 := by decide +kernel
theorem e_X3_loosen_14 : decode cX3_loosen 14 = .ok (.iload_n 1, 1) ∧ 14 + 1 = 15 := by decide +kernel
theorem e_X3_loosen_15 : decode cX3_loosen 15 = .ok (.iadd, 1) ∧ 15 + 1 = 16 := by decide +kernel
theorem e_X3_loosen_16 : decode cX3_loosen 16 = .ok (.aload_n 0, 1) ∧ 16 + 1 = 17 := by decide +kernel
theorem e_X3_loosen_17 : decode cX3_loosen 17 = .ok (.bipush 12, 2) ∧ 17 + 2 = 19 := by decide +kernel
theorem e_X3_loosen_19 : decode cX3_loosen 19 = .ok (.iload_n 1, 1) ∧ 19 + 1 = 20 := by decide +kernel
theorem e_X3_loosen_20 : decode cX3_loosen 20 = .ok (.iadd, 1) ∧ 20 + 1 = 21 := by decide +kernel
theorem e_X3_loosen_21 : decode cX3_loosen 21 = .ok (.iaload, 1) ∧ 21 + 1 = 22 := by decide +kernel
theorem e_X3_loosen_22 : decode cX3_loosen 22 = .ok (.iload_n 2, 1) ∧ 22 + 1 = 23 := by decide +kernel
theorem e_X3_loosen_23 : decode cX3_loosen 23 = .ok (.iadd, 1) ∧ 23 + 1 = 24 := by decide +kernel
theorem e_X3_loosen_24 : decode cX3_loosen 24 = .ok (.bipush 99, 2) ∧ 24 + 2 = 26 := by decide +kernel
theorem e_X3_loosen_26 : decode cX3_loosen 26 = .ok (.if_icmp .le 8, 3) ∧ 26 + 3 = 29 ∧ ((26 : Nat) : Int) + (8) = ((34 : Nat) : Int) := by decide +kernel
theorem e_X3_loosen_29 : decode cX3_loosen 29 = .ok (.bipush 99, 2) ∧ 29 + 2 = 31 := by decide +kernel
theorem e_X3_loosen_31 : decode cX3_loosen 31 = .ok (.goto 11, 3) ∧ 31 + 3 = 34 ∧ ((31 : Nat) : Int) + (11) = ((42 : Nat) : Int) := by decide +kernel
theorem e_X3_loosen_34 : decode cX3_loosen 34 = .ok (.aload_n 0, 1) ∧ 34 + 1 = 35 := by decide +kernel
theorem e_X3_loosen_35 : decode cX3_loosen 35 = .ok (.bipush 12, 2) ∧ 35 + 2 = 37 := by decide +kernel
theorem e_X3_loosen_37 : decode cX3_loosen 37 = .ok (.iload_n 1, 1) ∧ 37 + 1 = 38 := by decide +kernel
theorem e_X3_loosen_38 : decode cX3_loosen 38 = .ok (.iadd, 1) ∧ 38 + 1 = 39 := by decide +kernel
theorem e_X3_loosen_39 : decode cX3_loosen 39 = .ok (.iaload, 1) ∧ 39 + 1 = 40 := by decide +kernel
theorem e_X3_loosen_40 : decode cX3_loosen 40 = .ok (.iload_n 2, 1) ∧ 40 + 1 = 41 := by decide +kernel
theorem e_X3_loosen_41 : decode cX3_loosen 41 = .ok (.iadd, 1) ∧ 41 + 1 = 42 := by decide +kernel
theorem e_X3_loosen_42 : decode cX3_loosen 42 = .ok (.iastore, 1) ∧ 42 + 1 = 43 := by decide +kernel
theorem e_X3_loosen_43 : decode cX3_loosen 43 = .ok (.return_, 1) := by decide +kernel
theorem e_X3_fall_0 : decode cX3_fall 0 = .ok (.iconst 0, 1) ∧ 0 + 1 = 1 := by decide +kernel
theorem e_X3_fall_1 : decode cX3_fall 1 = .ok (.istore_n 2, 1) ∧ 1 + 1 = 2 := by decide +kernel
theorem e_X3_fall_2 : decode cX3_fall 2 = .ok (.iconst 1, 1) ∧ 2 + 1 = 3 := by decide +kernel
theorem e_X3_fall_3 : decode cX3_fall 3 = .ok (.istore_n 3, 1) ∧ 3 + 1 = 4 := by decide +kernel
theorem e_X3_fall_4 : decode cX3_fall 4 = .ok (.iload_n 3, 1) ∧ 4 + 1 = 5 := by decide +kernel
theorem e_X3_fall_5 : decode cX3_fall 5 = .ok (.ifCond .eq 252, 3) ∧ 5 + 3 = 8 ∧ ((5 : Nat) : Int) + (252) = ((257 : Nat) : Int) := by decide +kernel
theorem e_X3_fall_8 : decode cX3_fall 8 = .ok (.iconst 0, 1) ∧ 8 + 1 = 9 := by decide +kernel
theorem e_X3_fall_9 : decode cX3_fall 9 = .ok (.istore_n 3, 1) ∧ 9 + 1 = 10 := by decide +kernel
theorem e_X3_fall_10 : decode cX3_fall 10 = .ok (.iconst 0, 1) ∧ 10 + 1 = 11 := by decide +kernel
theorem e_X3_fall_11 : decode cX3_fall 11 = .ok (.istore 4, 2) ∧ 11 + 2 = 13 := by decide +kernel
theorem e_X3_fall_13 : decode cX3_fall 13 = .ok (.iload 4, 2) ∧ 13 + 2 = 15 := by decide +kernel
theorem e_X3_fall_15 : decode cX3_fall 15 = .ok (.bipush 12, 2) ∧ 15 + 2 = 17 := by decide +kernel
theorem e_X3_fall_17 : decode cX3_fall 17 = .ok (.if_icmp .ge 54, 3) ∧ 17 + 3 = 20 ∧ ((17 : Nat) : Int) + (54) = ((71 : Nat) : Int) := by decide +kernel
theorem e_X3_fall_20 : decode cX3_fall 20 = .ok (.iload_n 3, 1) ∧ 20 + 1 = 21 := by decide +kernel
theorem e_X3_fall_21 : decode cX3_fall 21 = .ok (.aload_n 1, 1) ∧ 21 + 1 = 22 := by decide +kernel
theorem e_X3_fall_22 : decode cX3_fall 22 = .ok (.bipush 48, 2) ∧ 22 + 2 = 24 := by decide +kernel
theorem e_X3_fall_24 : decode cX3_fall 24 = .ok (.iaload, 1) ∧ 24 + 1 = 25 := by decide +kernel
theorem e_X3_fall_25 : decode cX3_fall 25 = .ok (.iload 4, 2) ∧ 25 + 2 = 27 := by decide +kernel
theorem e_X3_fall_27 : decode cX3_fall 27 = .ok (.invokestatic 70, 3) ∧ 27 + 3 = 30 := by decide +kernel
theorem e_X3_fall_30 : decode cX3_fall 30 = .ok (.ifCond .ne 32, 3) ∧ 30 + 3 = 33 ∧ ((30 : Nat) : Int) + (32) = ((62 : Nat) : Int) := by decide +kernel
theorem e_X3_fall_33 : decode cX3_fall 33 = .ok (.aload_n 1, 1) ∧ 33 + 1 = 34 := by decide +kernel
theorem e_X3_fall_34 : decode cX3_fall 34 = .ok (.bipush 12, 2) ∧ 34 + 2 = 36 := by decide +kernel
theorem e_X3_fall_36 : decode cX3_fall 36 = .ok (.iload 4, 2) ∧ 36 + 2 = 38 := by decide +kernel
theorem e_X3_fall_38 : decode cX3_fall 38 = .ok (.iadd, 1) ∧ 38 + 1 = 39 := by decide +kernel
theorem e_X3_fall_39 : decode cX3_fall 39 = .ok (.iaload, 1) ∧ 39 + 1 = 40 := by decide +kernel
theorem e_X3_fall_40 : decode cX3_fall 40 = .ok (.aload_n 0, 1) ∧ 40 + 1 = 41 := by decide +kernel
theorem e_X3_fall_41 : decode cX3_fall 41 = .ok (.getfield 13, 3) ∧ 41 + 3 = 44 := by decide +kernel
theorem e_X3_fall_44 : decode cX3_fall 44 = .ok (.aload_n 1, 1) ∧ 44 + 1 = 45 := by decide +kernel
theorem e_X3_fall_45 : decode cX3_fall 45 = .ok (.bipush 24, 2) ∧ 45 + 2 = 47 := by decide +kernel
theorem e_X3_fall_47 : decode cX3_fall 47 = .ok (.iload 4, 2) ∧ 47 + 2 = 49 := by decide +kernel
theorem e_X3_fall_49 : decode cX3_fall 49 = .ok (.iadd, 1) ∧ 49 + 1 = 50 := by decide +kernel
theorem e_X3_fall_50 : decode cX3_fall 50 = .ok (.iaload, 1) ∧ 50 + 1 = 51 := by decide +kernel
theorem e_X3_fall_51 : decode cX3_fall 51 = .ok (.iadd, 1) ∧ 51 + 1 = 52 := by decide +kernel
theorem e_X3_fall_52 : decode cX3_fall 52 = .ok (.if_icmp .le 10, 3) ∧ 52 + 3 = 55 ∧ ((52 : Nat) : Int) + (10) = ((62 : Nat) : Int) := by decide +kernel
theorem e_X3_fall_55 : decode cX3_fall 55 = .ok (.iconst 1, 1) ∧ 55 + 1 = 56 := by decide +kernel
theorem e_X3_fall_56 : decode cX3_fall 56 = .ok (.iload 4, 2) ∧ 56 + 2 = 58 := by decide +kernel
theorem e_X3_fall_58 : decode cX3_fall 58 = .ok (.ishl, 1) ∧ 58 + 1 = 59 := by decide +kernel
theorem e_X3_fall_59 : decode cX3_fall 59 = .ok (.goto 4, 3) ∧ 59 + 3 = 62 ∧ ((59 : Nat) : Int) + (4) = ((63 : Nat) : Int) := by decide +kernel
theorem e_X3_fall_62 : decode cX3_fall 62 = .ok (.iconst 0, 1) ∧ 62 + 1 = 63 := by decide +kernel
theorem e_X3_fall_63 : decode cX3_fall 63 = .ok (.ior, 1) ∧ 63 + 1 = 64 := by decide +kernel
theorem e_X3_fall_64 : decode cX3_fall 64 = .ok (.istore_n 3, 1) ∧ 64 + 1 = 65 := by decide +kernel
theorem e_X3_fall_65 : decode cX3_fall 65 = .ok (.iinc 4 1, 3) ∧ 65 + 3 = 68 := by decide +kernel
theorem e_X3_fall_68 : decode cX3_fall 68 = .ok (.goto (-55), 3) ∧ 68 + 3 = 71 ∧ ((68 : Nat) : Int) + (-55) = ((13 : Nat) : Int) := by decide +kernel
theorem e_X3_fall_71 : decode cX3_fall 71 = .ok (.iconst 0, 1) ∧ 71 + 1 = 72 := by decide +kernel
theorem e_X3_fall_72 : decode cX3_fall 72 = .ok (.istore 4, 2) ∧ 72 + 2 = 74 := by decide +kernel
theorem e_X3_fall_74 : decode cX3_fall 74 = .ok (.iload 4, 2) ∧ 74 + 2 = 76 := by decide +kernel
theorem e_X3_fall_76 : decode cX3_fall 76 = .ok (.bipush 12, 2) ∧ 76 + 2 = 78 := by decide +kernel
theorem e_X3_fall_78 : decode cX3_fall 78 = .ok (.if_icmp .ge 114, 3) ∧ 78 + 3 = 81 ∧ ((78 : Nat) : Int) + (114) = ((192 : Nat) : Int) := by decide +kernel
theorem e_X3_fall_81 : decode cX3_fall 81 = .ok (.iload_n 3, 1) ∧ 81 + 1 = 82 := by decide +kernel
theorem e_X3_fall_82 : decode cX3_fall 82 = .ok (.iload 4, 2) ∧ 82 + 2 = 84 := by decide +kernel
theorem e_X3_fall_84 : decode cX3_fall 84 = .ok (.invokestatic 70, 3) ∧ 84 + 3 = 87 := by decide +kernel
theorem e_X3_fall_87 : decode cX3_fall 87 = .ok (.ifCond .eq 99, 3) ∧ 87 + 3 = 90 ∧ ((87 : Nat) : Int) + (99) = ((186 : Nat) : Int) := by decide +kernel
theorem e_X3_fall_90 : decode cX3_fall 90 = .ok (.aload_n 1, 1) ∧ 90 + 1 = 91 := by decide +kernel
theorem e_X3_fall_91 : decode cX3_fall 91 = .ok (.bipush 54, 2) ∧ 91 + 2 = 93 := by decide +kernel
theorem e_X3_fall_93 : decode cX3_fall 93 = .ok (.dup2, 1) ∧ 93 + 1 = 94 := by decide +kernel
theorem e_X3_fall_94 : decode cX3_fall 94 = .ok (.iaload, 1) ∧ 94 + 1 = 95 := by decide +kernel
theorem e_X3_fall_95 : decode cX3_fall 95 = .ok (.aload_n 1, 1) ∧ 95 + 1 = 96 := by decide +kernel
theorem e_X3_fall_96 : decode cX3_fall 96 = .ok (.iload 4, 2) ∧ 96 + 2 = 98 := by decide +kernel
theorem e_X3_fall_98 : decode cX3_fall 98 = .ok (.iaload, 1) ∧ 98 + 1 = 99 := by decide +kernel
theorem e_X3_fall_99 : decode cX3_fall 99 = .ok (.iadd, 1) ∧ 99 + 1 = 100 := by decide +kernel
theorem e_X3_fall_100 : decode cX3_fall 100 = .ok (.iastore, 1) ∧ 100 + 1 = 101 := by decide +kernel
theorem e_X3_fall_101 : decode cX3_fall 101 = .ok (.aload_n 1, 1) ∧ 101 + 1 = 102 := by decide +kernel
theorem e_X3_fall_102 : decode cX3_fall 102 = .ok (.iload 4, 2) ∧ 102 + 2 = 104 := by decide +kernel
theorem e_X3_fall_104 : decode cX3_fall 104 = .ok (.iconst 0, 1) ∧ 104 + 1 = 105 := by decide +kernel
theorem e_X3_fall_105 : decode cX3_fall 105 = .ok (.iastore, 1) ∧ 105 + 1 = 106 := by decide +kernel
theorem e_X3_fall_106 : decode cX3_fall 106 = .ok (.aload_n 1, 1) ∧ 106 + 1 = 107 := by decide +kernel
theorem e_X3_fall_107 : decode cX3_fall 107 = .ok (.bipush 12, 2) ∧ 107 + 2 = 109 := by decide +kernel
theorem e_X3_fall_109 : decode cX3_fall 109 = .ok (.iload 4, 2) ∧ 109 + 2 = 111 := by decide +kernel
theorem e_X3_fall_111 : decode cX3_fall 111 = .ok (.iadd, 1) ∧ 111 + 1 = 112 := by decide +kernel
theorem e_X3_fall_112 : decode cX3_fall 112 = .ok (.iconst 0, 1) ∧ 112 + 1 = 113 := by decide +kernel
theorem e_X3_fall_113 : decode cX3_fall 113 = .ok (.iastore, 1) ∧ 113 + 1 = 114 := by decide +kernel
theorem e_X3_fall_114 : decode cX3_fall 114 = .ok (.aload_n 1, 1) ∧ 114 + 1 = 115 := by decide +kernel
theorem e_X3_fall_115 : decode cX3_fall 115 = .ok (.bipush 24, 2) ∧ 115 + 2 = 117 := by decide +kernel
theorem e_X3_fall_117 : decode cX3_fall 117 = .ok (.iload 4, 2) ∧ 117 + 2 = 119 := by decide +kernel
theorem e_X3_fall_119 : decode cX3_fall 119 = .ok (.iadd, 1) ∧ 119 + 1 = 120 := by decide +kernel
theorem e_X3_fall_120 : decode cX3_fall 120 = .ok (.iconst 0, 1) ∧ 120 + 1 = 121 := by decide +kernel
theorem e_X3_fall_121 : decode cX3_fall 121 = .ok (.iastore, 1) ∧ 121 + 1 = 122 := by decide +kernel
theorem e_X3_fall_122 : decode cX3_fall 122 = .ok (.aload_n 1, 1) ∧ 122 + 1 = 123 := by decide +kernel
theorem e_X3_fall_123 : decode cX3_fall 123 = .ok (.bipush 36, 2) ∧ 123 + 2 = 125 := by decide +kernel
theorem e_X3_fall_125 : decode cX3_fall 125 = .ok (.iload 4, 2) ∧ 125 + 2 = 127 := by decide +kernel
theorem e_X3_fall_127 : decode cX3_fall 127 = .ok (.iadd, 1) ∧ 127 + 1 = 128 := by decide +kernel
theorem e_X3_fall_128 : decode cX3_fall 128 = .ok (.iconst 0, 1) ∧ 128 + 1 = 129 := by decide +kernel
theorem e_X3_fall_129 : decode cX3_fall 129 = .ok (.iastore, 1) ∧ 129 + 1 = 130 := by decide +kernel
theorem e_X3_fall_130 : decode cX3_fall 130 = .ok (.aload_n 1, 1) ∧ 130 + 1 = 131 := by decide +kernel
theorem e_X3_fall_131 : decode cX3_fall 131 = .ok (.bipush 48, 2) ∧ 131 + 2 = 133 := by decide +kernel
theorem e_X3_fall_133 : decode cX3_fall 133 = .ok (.dup2, 1) ∧ 133 + 1 = 134 := by decide +kernel
theorem e_X3_fall_134 : decode cX3_fall 134 = .ok (.iaload, 1) ∧ 134 + 1 = 135 := by decide +kernel
theorem e_X3_fall_135 : decode cX3_fall 135 = .ok (.iconst 1, 1) ∧ 135 + 1 = 136 := by decide +kernel
theorem e_X3_fall_136 : decode cX3_fall 136 = .ok (.iload 4, 2) ∧ 136 + 2 = 138 := by decide +kernel
theorem e_X3_fall_138 : decode cX3_fall 138 = .ok (.ishl, 1) ∧ 138 + 1 = 139 := by decide +kernel
theorem e_X3_fall_139 : decode cX3_fall 139 = .ok (.ior, 1) ∧ 139 + 1 = 140 := by decide +kernel
theorem e_X3_fall_140 : decode cX3_fall 140 = .ok (.iastore, 1) ∧ 140 + 1 = 141 := by decide +kernel
theorem e_X3_fall_141 : decode cX3_fall 141 = .ok (.iconst 0, 1) ∧ 141 + 1 = 142 := by decide +kernel
theorem e_X3_fall_142 : decode cX3_fall 142 = .ok (.istore 5, 2) ∧ 142 + 2 = 144 := by decide +kernel
theorem e_X3_fall_144 : decode cX3_fall 144 = .ok (.iload 5, 2) ∧ 144 + 2 = 146 := by decide +kernel
theorem e_X3_fall_146 : decode cX3_fall 146 = .ok (.aload_n 0, 1) ∧ 146 + 1 = 147 := by decide +kernel
theorem e_X3_fall_147 : decode cX3_fall 147 = .ok (.getfield 51, 3) ∧ 147 + 3 = 150 := by decide +kernel
theorem e_X3_fall_150 : decode cX3_fall 150 = .ok (.if_icmp .ge 36, 3) ∧ 150 + 3 = 153 ∧ ((150 : Nat) : Int) + (36) = ((186 : Nat) : Int) := by decide +kernel
theorem e_X3_fall_153 : decode cX3_fall 153 = .ok (.aload_n 1, 1) ∧ 153 + 1 = 154 := by decide +kernel
theorem e_X3_fall_154 : decode cX3_fall 154 = .ok (.bipush 53, 2) ∧ 154 + 2 = 156 := by decide +kernel
theorem e_X3_fall_156 : decode cX3_fall 156 = .ok (.dup2, 1) ∧ 156 + 1 = 157 := by decide +kernel
theorem e_X3_fall_157 : decode cX3_fall 157 = .ok (.iaload, 1) ∧ 157 + 1 = 158 := by decide +kernel
theorem e_X3_fall_158 : decode cX3_fall 158 = .ok (.aload_n 1, 1) ∧ 158 + 1 = 159 := by decide +kernel
theorem e_X3_fall_159 : decode cX3_fall 159 = .ok (.bipush 49, 2) ∧ 159 + 2 = 161 := by decide +kernel
theorem e_X3_fall_161 : decode cX3_fall 161 = .ok (.iload 5, 2) ∧ 161 + 2 = 163 := by decide +kernel
theorem e_X3_fall_163 : decode cX3_fall 163 = .ok (.iadd, 1) ∧ 163 + 1 = 164 := by decide +kernel
theorem e_X3_fall_164 : decode cX3_fall 164 = .ok (.iaload, 1) ∧ 164 + 1 = 165 := by decide +kernel
theorem e_X3_fall_165 : decode cX3_fall 165 = .ok (.iload 4, 2) ∧ 165 + 2 = 167 := by decide +kernel
theorem e_X3_fall_167 : decode cX3_fall 167 = .ok (.if_icmp .ne 10, 3) ∧ 167 + 3 = 170 ∧ ((167 : Nat) : Int) + (10) = ((177 : Nat) : Int) := by decide +kernel
theorem e_X3_fall_170 : decode cX3_fall 170 = .ok (.iconst 1, 1) ∧ 170 + 1 = 171 := by decide +kernel
theorem e_X3_fall_171 : decode cX3_fall 171 = .ok (.iload 5, 2) ∧ 171 + 2 = 173 := by decide +kernel
theorem e_X3_fall_173 : decode cX3_fall 173 = .ok (.ishl, 1) ∧ 173 + 1 = 174 := by decide +kernel
theorem e_X3_fall_174 : decode cX3_fall 174 = .ok (.goto 4, 3) ∧ 174 + 3 = 177 ∧ ((174 : Nat) : Int) + (4) = ((178 : Nat) : Int) := by decide +kernel
theorem e_X3_fall_177 : decode cX3_fall 177 = .ok (.iconst 0, 1) ∧ 177 + 1 = 178 := by decide +kernel
theorem e_X3_fall_178 : decode cX3_fall 178 = .ok (.ior, 1) ∧ 178 + 1 = 179 := by decide +kernel
theorem e_X3_fall_179 : decode cX3_fall 179 = .ok (.iastore, 1) ∧ 179 + 1 = 180 := by decide +kernel
theorem e_X3_fall_180 : decode cX3_fall 180 = .ok (.iinc 5 1, 3) ∧ 180 + 3 = 183 := by decide +kernel
theorem e_X3_fall_183 : decode cX3_fall 183 = .ok (.goto (-39), 3) ∧ 183 + 3 = 186 ∧ ((183 : Nat) : Int) + (-39) = ((144 : Nat) : Int) := by decide +kernel
theorem e_X3_fall_186 : decode cX3_fall 186 = .ok (.iinc 4 1, 3) ∧ 186 + 3 = 189 := by decide +kernel
theorem e_X3_fall_189 : decode cX3_fall 189 = .ok (.goto (-115), 3) ∧ 189 + 3 = 192 ∧ ((189 : Nat) : Int) + (-115) = ((74 : Nat) : Int) := by decide +kernel
theorem e_X3_fall_192 : decode cX3_fall 192 = .ok (.iconst 0, 1) ∧ 192 + 1 = 193 := by decide +kernel
theorem e_X3_fall_193 : decode cX3_fall 193 = .ok (.istore 4, 2) ∧ 193 + 2 = 195 := by decide +kernel
theorem e_X3_fall_195 : decode cX3_fall 195 = .ok (.iload 4, 2) ∧ 195 + 2 = 197 := by decide +kernel
theorem e_X3_fall_197 : decode cX3_fall 197 = .ok (.bipush 12, 2) ∧ 197 + 2 = 199 := by decide +kernel
theorem e_X3_fall_199 : decode cX3_fall 199 = .ok (.if_icmp .ge 51, 3) ∧ 199 + 3 = 202 ∧ ((199 : Nat) : Int) + (51) = ((250 : Nat) : Int) := by decide +kernel
theorem e_X3_fall_202 : decode cX3_fall 202 = .ok (.iconst 0, 1) ∧ 202 + 1 = 203 := by decide +kernel
theorem e_X3_fall_203 : decode cX3_fall 203 = .ok (.istore 5, 2) ∧ 203 + 2 = 205 := by decide +kernel
theorem e_X3_fall_205 : decode cX3_fall 205 = .ok (.iload 5, 2) ∧ 205 + 2 = 207 := by decide +kernel
theorem e_X3_fall_207 : decode cX3_fall 207 = .ok (.bipush 12, 2) ∧ 207 + 2 = 209 := by decide +kernel
theorem e_X3_fall_209 : decode cX3_fall 209 = .ok (.if_icmp .ge 35, 3) ∧ 209 + 3 = 212 ∧ ((209 : Nat) : Int) + (35) = ((244 : Nat) : Int) := by decide +kernel
theorem e_X3_fall_212 : decode cX3_fall 212 = .ok (.iload_n 3, 1) ∧ 212 + 1 = 213 := by decide +kernel
theorem e_X3_fall_213 : decode cX3_fall 213 = .ok (.iload 4, 2) ∧ 213 + 2 = 215 := by decide +kernel
theorem e_X3_fall_215 : decode cX3_fall 215 = .ok (.invokestatic 70, 3) ∧ 215 + 3 = 218 := by decide +kernel
theorem e_X3_fall_218 : decode cX3_fall 218 = .ok (.ifCond .eq 20, 3) ∧ 218 + 3 = 221 ∧ ((218 : Nat) : Int) + (20) = ((238 : Nat) : Int) := by decide +kernel
theorem e_X3_fall_221 : decode cX3_fall 221 = .ok (.iload 4, 2) ∧ 221 + 2 = 223 := by decide +kernel
theorem e_X3_fall_223 : decode cX3_fall 223 = .ok (.iload 5, 2) ∧ 223 + 2 = 225 := by decide +kernel
theorem e_X3_fall_225 : decode cX3_fall 225 = .ok (.invokestatic 121, 3) ∧ 225 + 3 = 228 := by decide +kernel
theorem e_X3_fall_228 : decode cX3_fall 228 = .ok (.ifCond .eq 10, 3) ∧ 228 + 3 = 231 ∧ ((228 : Nat) : Int) + (10) = ((238 : Nat) : Int) := by decide +kernel
theorem e_X3_fall_231 : decode cX3_fall 231 = .ok (.aload_n 1, 1) ∧ 231 + 1 = 232 := by decide +kernel
theorem e_X3_fall_232 : decode cX3_fall 232 = .ok (.iload 5, 2) ∧ 232 + 2 = 234 := by decide +kernel
theorem e_X3_fall_234 : decode cX3_fall 234 = .ok (.iconst 1, 1) ∧ 234 + 1 = 235 := by decide +kernel
theorem e_X3_fall_235 : decode cX3_fall 235 = .ok (.invokestatic 131, 3) ∧ 235 + 3 = 238 := by decide +kernel
theorem e_X3_fall_238 : decode cX3_fall 238 = .ok (.iinc 5 1, 3) ∧ 238 + 3 = 241 := by decide +kernel
theorem e_X3_fall_241 : decode cX3_fall 241 = .ok (.goto (-36), 3) ∧ 241 + 3 = 244 ∧ ((241 : Nat) : Int) + (-36) = ((205 : Nat) : Int) := by decide +kernel
theorem e_X3_fall_244 : decode cX3_fall 244 = .ok (.iinc 4 1, 3) ∧ 244 + 3 = 247 := by decide +kernel
theorem e_X3_fall_247 : decode cX3_fall 247 = .ok (.goto (-52), 3) ∧ 247 + 3 = 250 ∧ ((247 : Nat) : Int) + (-52) = ((195 : Nat) : Int) := by decide +kernel
theorem e_X3_fall_250 : decode cX3_fall 250 = .ok (.iload_n 2, 1) ∧ 250 + 1 = 251 := by decide +kernel
theorem e_X3_fall_251 : decode cX3_fall 251 = .ok (.iload_n 3, 1) ∧ 251 + 1 = 252 := by decide +kernel
theorem e_X3_fall_252 : decode cX3_fall 252 = .ok (.ior, 1) ∧ 252 + 1 = 253 := by decide +kernel
theorem e_X3_fall_253 : decode cX3_fall 253 = .ok (.istore_n 2, 1) ∧ 253 + 1 = 254 := by decide +kernel
theorem e_X3_fall_254 : decode cX3_fall 254 = .ok (.goto (-250), 3) ∧ 254 + 3 = 257 ∧ ((254 : Nat) : Int) + (-250) = ((4 : Nat) : Int) := by decide +kernel
theorem e_X3_fall_257 : decode cX3_fall 257 = .ok (.iload_n 2, 1) ∧ 257 + 1 = 258 := by decide +kernel
theorem e_X3_fall_258 : decode cX3_fall 258 = .ok (.ireturn, 1) := by decide +kernel
theorem e_X3_goPray_0 : decode cX3_goPray 0 = .ok (.aload_n 0, 1) ∧ 0 + 1 = 1 := by decide +kernel
theorem e_X3_goPray_1 : decode cX3_goPray 1 = .ok (.aload_n 1, 1) ∧ 1 + 1 = 2 := by decide +kernel
theorem e_X3_goPray_2 : decode cX3_goPray 2 = .ok (.iload_n 2, 1) ∧ 2 + 1 = 3 := by decide +kernel
theorem e_X3_goPray_3 : decode cX3_goPray 3 = .ok (.invokevirtual 127, 3) ∧ 3 + 3 = 6 := by decide +kernel
theorem e_X3_goPray_6 : decode cX3_goPray 6 = .ok (.istore_n 3, 1) ∧ 6 + 1 = 7 := by decide +kernel
theorem e_X3_goPray_7 : decode cX3_goPray 7 = .ok (.aload_n 1, 1) ∧ 7 + 1 = 8 := by decide +kernel
theorem e_X3_goPray_8 : decode cX3_goPray 8 = .ok (.bipush 49, 2) ∧ 8 + 2 = 10 := by decide +kernel
theorem e_X3_goPray_10 : decode cX3_goPray 10 = .ok (.iload_n 2, 1) ∧ 10 + 1 = 11 := by decide +kernel
theorem e_X3_goPray_11 : decode cX3_goPray 11 = .ok (.iadd, 1) ∧ 11 + 1 = 12 := by decide +kernel
theorem e_X3_goPray_12 : decode cX3_goPray 12 = .ok (.iaload, 1) ∧ 12 + 1 = 13 := by decide +kernel
theorem e_X3_goPray_13 : decode cX3_goPray 13 = .ok (.istore 4, 2) ∧ 13 + 2 = 15 := by decide +kernel
theorem e_X3_goPray_15 : decode cX3_goPray 15 = .ok (.aload_n 1, 1) ∧ 15 + 1 = 16 := by decide +kernel
theorem e_X3_goPray_16 : decode cX3_goPray 16 = .ok (.iload 4, 2) ∧ 16 + 2 = 18 := by decide +kernel
theorem e_X3_goPray_18 : decode cX3_goPray 18 = .ok (.iconst 2, 1) ∧ 18 + 1 = 19 := by decide +kernel
theorem e_X3_goPray_19 : decode cX3_goPray 19 = .ok (.iload_n 3, 1) ∧ 19 + 1 = 20 := by decide +kernel
theorem e_X3_goPray_20 : decode cX3_goPray 20 = .ok (.imul, 1) ∧ 20 + 1 = 21 := by decide +kernel
theorem e_X3_goPray_21 : decode cX3_goPray 21 = .ok (.invokestatic 131, 3) ∧ 21 + 3 = 24 := by decide +kernel
theorem e_X3_goPray_24 : decode cX3_goPray 24 = .ok (.iconst 0, 1) ∧ 24 + 1 = 25 := by decide +kernel
theorem e_X3_goPray_25 : decode cX3_goPray 25 = .ok (.istore 5, 2) ∧ 25 + 2 = 27 := by decide +kernel
theorem e_X3_goPray_27 : decode cX3_goPray 27 = .ok (.iload 5, 2) ∧ 27 + 2 = 29 := by decide +kernel
theorem e_X3_goPray_29 : decode cX3_goPray 29 = .ok (.bipush 12, 2) ∧ 29 + 2 = 31 := by decide +kernel
theorem e_X3_goPray_31 : decode cX3_goPray 31 = .ok (.if_icmp .ge 26, 3) ∧ 31 + 3 = 34 ∧ ((31 : Nat) : Int) + (26) = ((57 : Nat) : Int) := by decide +kernel
theorem e_X3_goPray_34 : decode cX3_goPray 34 = .ok (.iload 4, 2) ∧ 34 + 2 = 36 := by decide +kernel
theorem e_X3_goPray_36 : decode cX3_goPray 36 = .ok (.iload 5, 2) ∧ 36 + 2 = 38 := by decide +kernel
theorem e_X3_goPray_38 : decode cX3_goPray 38 = .ok (.invokestatic 121, 3) ∧ 38 + 3 = 41 := by decide +kernel
theorem e_X3_goPray_41 : decode cX3_goPray 41 = .ok (.ifCond .eq 10, 3) ∧ 41 + 3 = 44 ∧ ((41 : Nat) : Int) + (10) = ((51 : Nat) : Int) := by decide +kernel
theorem e_X3_goPray_44 : decode cX3_goPray 44 = .ok (.aload_n 1, 1) ∧ 44 + 1 = 45 := by decide +kernel
theorem e_X3_goPray_45 : decode cX3_goPray 45 = .ok (.iload 5, 2) ∧ 45 + 2 = 47 := by decide +kernel
theorem e_X3_goPray_47 : decode cX3_goPray 47 = .ok (.iload_n 3, 1) ∧ 47 + 1 = 48 := by decide +kernel
theorem e_X3_goPray_48 : decode cX3_goPray 48 = .ok (.invokestatic 131, 3) ∧ 48 + 3 = 51 := by decide +kernel
theorem e_X3_goPray_51 : decode cX3_goPray 51 = .ok (.iinc 5 1, 3) ∧ 51 + 3 = 54 := by decide +kernel
theorem e_X3_goPray_54 : decode cX3_goPray 54 = .ok (.goto (-27), 3) ∧ 54 + 3 = 57 ∧ ((54 : Nat) : Int) + (-27) = ((27 : Nat) : Int) := by decide +kernel
theorem e_X3_goPray_57 : decode cX3_goPray 57 = .ok (.aload_n 1, 1) ∧ 57 + 1 = 58 := by decide +kernel
theorem e_X3_goPray_58 : decode cX3_goPray 58 = .ok (.bipush 36, 2) ∧ 58 + 2 = 60 := by decide +kernel
theorem e_X3_goPray_60 : decode cX3_goPray 60 = .ok (.iload 4, 2) ∧ 60 + 2 = 62 := by decide +kernel
theorem e_X3_goPray_62 : decode cX3_goPray 62 = .ok (.iadd, 1) ∧ 62 + 1 = 63 := by decide +kernel
theorem e_X3_goPray_63 : decode cX3_goPray 63 = .ok (.dup2, 1) ∧ 63 + 1 = 64 := by decide +kernel
theorem e_X3_goPray_64 : decode cX3_goPray 64 = .ok (.iaload, 1) ∧ 64 + 1 = 65 := by decide +kernel
theorem e_X3_goPray_65 : decode cX3_goPray 65 = .ok (.aload_n 1, 1) ∧ 65 + 1 = 66 := by decide +kernel
theorem e_X3_goPray_66 : decode cX3_goPray 66 = .ok (.bipush 48, 2) ∧ 66 + 2 = 68 := by decide +kernel
theorem e_X3_goPray_68 : decode cX3_goPray 68 = .ok (.iaload, 1) ∧ 68 + 1 = 69 := by decide +kernel
theorem e_X3_goPray_69 : decode cX3_goPray 69 = .ok (.iload 4, 2) ∧ 69 + 2 = 71 := by decide +kernel
theorem e_X3_goPray_71 : decode cX3_goPray 71 = .ok (.invokestatic 70, 3) ∧ 71 + 3 = 74 := by decide +kernel
theorem e_X3_goPray_74 : decode cX3_goPray 74 = .ok (.ifCond .eq 7, 3) ∧ 74 + 3 = 77 ∧ ((74 : Nat) : Int) + (7) = ((81 : Nat) : Int) := by decide +kernel
theorem e_X3_goPray_77 : decode cX3_goPray 77 = .ok (.iconst 0, 1) ∧ 77 + 1 = 78 := by decide +kernel
theorem e_X3_goPray_78 : decode cX3_goPray 78 = .ok (.goto 4, 3) ∧ 78 + 3 = 81 ∧ ((78 : Nat) : Int) + (4) = ((82 : Nat) : Int) := by decide +kernel
theorem e_X3_goPray_81 : decode cX3_goPray 81 = .ok (.iconst 1, 1) ∧ 81 + 1 = 82 := by decide +kernel
theorem e_X3_goPray_82 : decode cX3_goPray 82 = .ok (.iadd, 1) ∧ 82 + 1 = 83 := by decide +kernel
theorem e_X3_goPray_83 : decode cX3_goPray 83 = .ok (.iastore, 1) ∧ 83 + 1 = 84 := by decide +kernel
theorem e_X3_goPray_84 : decode cX3_goPray 84 = .ok (.aload_n 0, 1) ∧ 84 + 1 = 85 := by decide +kernel
theorem e_X3_goPray_85 : decode cX3_goPray 85 = .ok (.aload_n 1, 1) ∧ 85 + 1 = 86 := by decide +kernel
theorem e_X3_goPray_86 : decode cX3_goPray 86 = .ok (.invokevirtual 135, 3) ∧ 86 + 3 = 89 := by decide +kernel
theorem e_X3_goPray_89 : decode cX3_goPray 89 = .ok (.ireturn, 1) := by decide +kernel
theorem e_X3_goDay_0 : decode cX3_goDay 0 = .ok (.aload_n 1, 1) ∧ 0 + 1 = 1 := by decide +kernel
theorem e_X3_goDay_1 : decode cX3_goDay 1 = .ok (.bipush 55, 2) ∧ 1 + 2 = 3 := by decide +kernel
theorem e_X3_goDay_3 : decode cX3_goDay 3 = .ok (.dup2, 1) ∧ 3 + 1 = 4 := by decide +kernel
theorem e_X3_goDay_4 : decode cX3_goDay 4 = .ok (.iaload, 1) ∧ 4 + 1 = 5 := by decide +kernel
theorem e_X3_goDay_5 : decode cX3_goDay 5 = .ok (.iconst 1, 1) ∧ 5 + 1 = 6 := by decide +kernel
theorem e_X3_goDay_6 : decode cX3_goDay 6 = .ok (.iadd, 1) ∧ 6 + 1 = 7 := by decide +kernel
theorem e_X3_goDay_7 : decode cX3_goDay 7 = .ok (.iastore, 1) ∧ 7 + 1 = 8 := by decide +kernel
theorem e_X3_goDay_8 : decode cX3_goDay 8 = .ok (.iconst 0, 1) ∧ 8 + 1 = 9 := by decide +kernel
theorem e_X3_goDay_9 : decode cX3_goDay 9 = .ok (.istore_n 2, 1) ∧ 9 + 1 = 10 := by decide +kernel
theorem e_X3_goDay_10 : decode cX3_goDay 10 = .ok (.iload_n 2, 1) ∧ 10 + 1 = 11 := by decide +kernel
theorem e_X3_goDay_11 : decode cX3_goDay 11 = .ok (.bipush 12, 2) ∧ 11 + 2 = 13 := by decide +kernel
theorem e_X3_goDay_13 : decode cX3_goDay 13 = .ok (.if_icmp .ge 27, 3) ∧ 13 + 3 = 16 ∧ ((13 : Nat) : Int) + (27) = ((40 : Nat) : Int) := by decide +kernel
theorem e_X3_goDay_16 : decode cX3_goDay 16 = .ok (.aload_n 1, 1) ∧ 16 + 1 = 17 := by decide +kernel
theorem e_X3_goDay_17 : decode cX3_goDay 17 = .ok (.iload_n 2, 1) ∧ 17 + 1 = 18 := by decide +kernel
theorem e_X3_goDay_18 : decode cX3_goDay 18 = .ok (.aload_n 1, 1) ∧ 18 + 1 = 19 := by decide +kernel
theorem e_X3_goDay_19 : decode cX3_goDay 19 = .ok (.bipush 36, 2) ∧ 19 + 2 = 21 := by decide +kernel
theorem e_X3_goDay_21 : decode cX3_goDay 21 = .ok (.iload_n 2, 1) ∧ 21 + 1 = 22 := by decide +kernel
theorem e_X3_goDay_22 : decode cX3_goDay 22 = .ok (.iadd, 1) ∧ 22 + 1 = 23 := by decide +kernel
theorem e_X3_goDay_23 : decode cX3_goDay 23 = .ok (.iaload, 1) ∧ 23 + 1 = 24 := by decide +kernel
theorem e_X3_goDay_24 : decode cX3_goDay 24 = .ok (.invokestatic 131, 3) ∧ 24 + 3 = 27 := by decide +kernel
theorem e_X3_goDay_27 : decode cX3_goDay 27 = .ok (.aload_n 1, 1) ∧ 27 + 1 = 28 := by decide +kernel
theorem e_X3_goDay_28 : decode cX3_goDay 28 = .ok (.bipush 36, 2) ∧ 28 + 2 = 30 := by decide +kernel
theorem e_X3_goDay_30 : decode cX3_goDay 30 = .ok (.iload_n 2, 1) ∧ 30 + 1 = 31 := by decide +kernel
theorem e_X3_goDay_31 : decode cX3_goDay 31 = .ok (.iadd, 1) ∧ 31 + 1 = 32 := by decide +kernel
theorem e_X3_goDay_32 : decode cX3_goDay 32 = .ok (.iconst 0, 1) ∧ 32 + 1 = 33 := by decide +kernel
theorem e_X3_goDay_33 : decode cX3_goDay 33 = .ok (.iastore, 1) ∧ 33 + 1 = 34 := by decide +kernel
theorem e_X3_goDay_34 : decode cX3_goDay 34 = .ok (.iinc 2 1, 3) ∧ 34 + 3 = 37 := by decide +kernel
theorem e_X3_goDay_37 : decode cX3_goDay 37 = .ok (.goto (-27), 3) ∧ 37 + 3 = 40 ∧ ((37 : Nat) : Int) + (-27) = ((10 : Nat) : Int) := by decide +kernel
theorem e_X3_goDay_40 : decode cX3_goDay 40 = .ok (.aload_n 0, 1) ∧ 40 + 1 = 41 := by decide +kernel
theorem e_X3_goDay_41 : decode cX3_goDay 41 = .ok (.aload_n 1, 1) ∧ 41 + 1 = 42 := by decide +kernel
theorem e_X3_goDay_42 : decode cX3_goDay 42 = .ok (.invokevirtual 135, 3) ∧ 42 + 3 = 45 := by decide +kernel
theorem e_X3_goDay_45 : decode cX3_goDay 45 = .ok (.ireturn, 1) := by decide +kernel
theorem e_X3_noOne_0 : decode cX3_noOne 0 = .ok (.aload_n 0, 1) ∧ 0 + 1 = 1 := by decide +kernel
theorem e_X3_noOne_1 : decode cX3_noOne 1 = .ok (.iload_n 1, 1) ∧ 1 + 1 = 2 := by decide +kernel
theorem e_X3_noOne_2 : decode cX3_noOne 2 = .ok (.invokevirtual 124, 3) ∧ 2 + 3 = 5 := by decide +kernel
theorem e_X3_noOne_5 : decode cX3_noOne 5 = .ok (.ifCond .eq 7, 3) ∧ 5 + 3 = 8 ∧ ((5 : Nat) : Int) + (7) = ((12 : Nat) : Int) := by decide +kernel
theorem e_X3_noOne_8 : decode cX3_noOne 8 = .ok (.iconst (-1), 1) ∧ 8 + 1 = 9 := by decide +kernel
theorem e_X3_noOne_9 : decode cX3_noOne 9 = .ok (.goto 23, 3) ∧ 9 + 3 = 12 ∧ ((9 : Nat) : Int) + (23) = ((32 : Nat) : Int) := by decide +kernel
theorem e_X3_noOne_12 : decode cX3_noOne 12 = .ok (.aload_n 0, 1) ∧ 12 + 1 = 13 := by decide +kernel
theorem e_X3_noOne_13 : decode cX3_noOne 13 = .ok (.getfield 20, 3) ∧ 13 + 3 = 16 := by decide +kernel
theorem e_X3_noOne_16 : decode cX3_noOne 16 = .ok (.bipush 53, 2) ∧ 16 + 2 = 18 := by decide +kernel
theorem e_X3_noOne_18 : decode cX3_noOne 18 = .ok (.iaload, 1) ∧ 18 + 1 = 19 := by decide +kernel
theorem e_X3_noOne_19 : decode cX3_noOne 19 = .ok (.iload_n 1, 1) ∧ 19 + 1 = 20 := by decide +kernel
theorem e_X3_noOne_20 : decode cX3_noOne 20 = .ok (.invokestatic 70, 3) ∧ 20 + 3 = 23 := by decide +kernel
theorem e_X3_noOne_23 : decode cX3_noOne 23 = .ok (.ifCond .eq 8, 3) ∧ 23 + 3 = 26 ∧ ((23 : Nat) : Int) + (8) = ((31 : Nat) : Int) := by decide +kernel
theorem e_X3_noOne_26 : decode cX3_noOne 26 = .ok (.bipush (-3), 2) ∧ 26 + 2 = 28 := by decide +kernel
theorem e_X3_noOne_28 : decode cX3_noOne 28 = .ok (.goto 4, 3) ∧ 28 + 3 = 31 ∧ ((28 : Nat) : Int) + (4) = ((32 : Nat) : Int) := by decide +kernel
theorem e_X3_noOne_31 : decode cX3_noOne 31 = .ok (.iconst 0, 1) ∧ 31 + 1 = 32 := by decide +kernel
theorem e_X3_noOne_32 : decode cX3_noOne 32 = .ok (.ireturn, 1) := by decide +kernel
theorem e_X3_pray_0 : decode cX3_pray 0 = .ok (.aload_n 0, 1) ∧ 0 + 1 = 1 := by decide +kernel
theorem e_X3_pray_1 : decode cX3_pray 1 = .ok (.iconst 0, 1) ∧ 1 + 1 = 2 := by decide +kernel
theorem e_X3_pray_2 : decode cX3_pray 2 = .ok (.putfield 48, 3) ∧ 2 + 3 = 5 := by decide +kernel
theorem e_X3_pray_5 : decode cX3_pray 5 = .ok (.aload_n 0, 1) ∧ 5 + 1 = 6 := by decide +kernel
theorem e_X3_pray_6 : decode cX3_pray 6 = .ok (.iload_n 1, 1) ∧ 6 + 1 = 7 := by decide +kernel
theorem e_X3_pray_7 : decode cX3_pray 7 = .ok (.invokevirtual 139, 3) ∧ 7 + 3 = 10 := by decide +kernel
theorem e_X3_pray_10 : decode cX3_pray 10 = .ok (.istore_n 2, 1) ∧ 10 + 1 = 11 := by decide +kernel
theorem e_X3_pray_11 : decode cX3_pray 11 = .ok (.iload_n 2, 1) ∧ 11 + 1 = 12 := by decide +kernel
theorem e_X3_pray_12 : decode cX3_pray 12 = .ok (.ifCond .eq 5, 3) ∧ 12 + 3 = 15 ∧ ((12 : Nat) : Int) + (5) = ((17 : Nat) : Int) := by decide +kernel
theorem e_X3_pray_15 : decode cX3_pray 15 = .ok (.iload_n 2, 1) ∧ 15 + 1 = 16 := by decide +kernel
theorem e_X3_pray_16 : decode cX3_pray 16 = .ok (.ireturn, 1) := by decide +kernel
theorem e_X3_pray_17 : decode cX3_pray 17 = .ok (.aload_n 0, 1) ∧ 17 + 1 = 18 := by decide +kernel
theorem e_X3_pray_18 : decode cX3_pray 18 = .ok (.invokevirtual 142, 3) ∧ 18 + 3 = 21 := by decide +kernel
theorem e_X3_pray_21 : decode cX3_pray 21 = .ok (.aload_n 0, 1) ∧ 21 + 1 = 22 := by decide +kernel
theorem e_X3_pray_22 : decode cX3_pray 22 = .ok (.aload_n 0, 1) ∧ 22 + 1 = 23 := by decide +kernel
theorem e_X3_pray_23 : decode cX3_pray 23 = .ok (.getfield 20, 3) ∧ 23 + 3 = 26 := by decide +kernel
theorem e_X3_pray_26 : decode cX3_pray 26 = .ok (.iload_n 1, 1) ∧ 26 + 1 = 27 := by decide +kernel
theorem e_X3_pray_27 : decode cX3_pray 27 = .ok (.invokevirtual 145, 3) ∧ 27 + 3 = 30 := by decide +kernel
theorem e_X3_pray_30 : decode cX3_pray 30 = .ok (.ireturn, 1) := by decide +kernel
theorem e_X3_oath_0 : decode cX3_oath 0 = .ok (.aload_n 0, 1) ∧ 0 + 1 = 1 := by decide +kernel
theorem e_X3_oath_1 : decode cX3_oath 1 = .ok (.iconst 0, 1) ∧ 1 + 1 = 2 := by decide +kernel
theorem e_X3_oath_2 : decode cX3_oath 2 = .ok (.putfield 48, 3) ∧ 2 + 3 = 5 := by decide +kernel
theorem e_X3_oath_5 : decode cX3_oath 5 = .ok (.aload_n 0, 1) ∧ 5 + 1 = 6 := by decide +kernel
theorem e_X3_oath_6 : decode cX3_oath 6 = .ok (.iload_n 1, 1) ∧ 6 + 1 = 7 := by decide +kernel
theorem e_X3_oath_7 : decode cX3_oath 7 = .ok (.invokevirtual 139, 3) ∧ 7 + 3 = 10 := by decide +kernel
theorem e_X3_oath_10 : decode cX3_oath 10 = .ok (.istore_n 2, 1) ∧ 10 + 1 = 11 := by decide +kernel
theorem e_X3_oath_11 : decode cX3_oath 11 = .ok (.iload_n 2, 1) ∧ 11 + 1 = 12 := by decide +kernel
theorem e_X3_oath_12 : decode cX3_oath 12 = .ok (.ifCond .eq 5, 3) ∧ 12 + 3 = 15 ∧ ((12 : Nat) : Int) + (5) = ((17 : Nat) : Int) := by decide +kernel
theorem e_X3_oath_15 : decode cX3_oath 15 = .ok (.iload_n 2, 1) ∧ 15 + 1 = 16 := by decide +kernel
theorem e_X3_oath_16 : decode cX3_oath 16 = .ok (.ireturn, 1) := by decide +kernel
theorem e_X3_oath_17 : decode cX3_oath 17 = .ok (.aload_n 0, 1) ∧ 17 + 1 = 18 := by decide +kernel
theorem e_X3_oath_18 : decode cX3_oath 18 = .ok (.getfield 20, 3) ∧ 18 + 3 = 21 := by decide +kernel
theorem e_X3_oath_21 : decode cX3_oath 21 = .ok (.bipush 49, 2) ∧ 21 + 2 = 23 := by decide +kernel
theorem e_X3_oath_23 : decode cX3_oath 23 = .ok (.iload_n 1, 1) ∧ 23 + 1 = 24 := by decide +kernel
theorem e_X3_oath_24 : decode cX3_oath 24 = .ok (.iadd, 1) ∧ 24 + 1 = 25 := by decide +kernel
theorem e_X3_oath_25 : decode cX3_oath 25 = .ok (.iaload, 1) ∧ 25 + 1 = 26 := by decide +kernel
theorem e_X3_oath_26 : decode cX3_oath 26 = .ok (.istore_n 3, 1) ∧ 26 + 1 = 27 := by decide +kernel
theorem e_X3_oath_27 : decode cX3_oath 27 = .ok (.aload_n 0, 1) ∧ 27 + 1 = 28 := by decide +kernel
theorem e_X3_oath_28 : decode cX3_oath 28 = .ok (.getfield 20, 3) ∧ 28 + 3 = 31 := by decide +kernel
theorem e_X3_oath_31 : decode cX3_oath 31 = .ok (.bipush 48, 2) ∧ 31 + 2 = 33 := by decide +kernel
theorem e_X3_oath_33 : decode cX3_oath 33 = .ok (.iaload, 1) ∧ 33 + 1 = 34 := by decide +kernel
theorem e_X3_oath_34 : decode cX3_oath 34 = .ok (.iload_n 3, 1) ∧ 34 + 1 = 35 := by decide +kernel
theorem e_X3_oath_35 : decode cX3_oath 35 = .ok (.invokestatic 70, 3) ∧ 35 + 3 = 38 := by decide +kernel
theorem e_X3_oath_38 : decode cX3_oath 38 = .ok (.ifCond .eq 6, 3) ∧ 38 + 3 = 41 ∧ ((38 : Nat) : Int) + (6) = ((44 : Nat) : Int) := by decide +kernel
theorem e_X3_oath_41 : decode cX3_oath 41 = .ok (.bipush (-3), 2) ∧ 41 + 2 = 43 := by decide +kernel
theorem e_X3_oath_43 : decode cX3_oath 43 = .ok (.ireturn, 1) := by decide +kernel
theorem e_X3_oath_44 : decode cX3_oath 44 = .ok (.aload_n 0, 1) ∧ 44 + 1 = 45 := by decide +kernel
theorem e_X3_oath_45 : decode cX3_oath 45 = .ok (.getfield 20, 3) ∧ 45 + 3 = 48 := by decide +kernel
theorem e_X3_oath_48 : decode cX3_oath 48 = .ok (.bipush 24, 2) ∧ 48 + 2 = 50 := by decide +kernel
theorem e_X3_oath_50 : decode cX3_oath 50 = .ok (.iload_n 3, 1) ∧ 50 + 1 = 51 := by decide +kernel
theorem e_X3_oath_51 : decode cX3_oath 51 = .ok (.iadd, 1) ∧ 51 + 1 = 52 := by decide +kernel
theorem e_X3_oath_52 : decode cX3_oath 52 = .ok (.iaload, 1) ∧ 52 + 1 = 53 := by decide +kernel
theorem e_X3_oath_53 : decode cX3_oath 53 = .ok (.bipush 9, 2) ∧ 53 + 2 = 55 := by decide +kernel
theorem e_X3_oath_55 : decode cX3_oath 55 = .ok (.if_icmp .ne 6, 3) ∧ 55 + 3 = 58 ∧ ((55 : Nat) : Int) + (6) = ((61 : Nat) : Int) := by decide +kernel
theorem e_X3_oath_58 : decode cX3_oath 58 = .ok (.bipush (-4), 2) ∧ 58 + 2 = 60 := by decide +kernel
theorem e_X3_oath_60 : decode cX3_oath 60 = .ok (.ireturn, 1) := by decide +kernel
theorem e_X3_oath_61 : decode cX3_oath 61 = .ok (.aload_n 0, 1) ∧ 61 + 1 = 62 := by decide +kernel
theorem e_X3_oath_62 : decode cX3_oath 62 = .ok (.invokevirtual 142, 3) ∧ 62 + 3 = 65 := by decide +kernel
theorem e_X3_oath_65 : decode cX3_oath 65 = .ok (.aload_n 0, 1) ∧ 65 + 1 = 66 := by decide +kernel
theorem e_X3_oath_66 : decode cX3_oath 66 = .ok (.getfield 20, 3) ∧ 66 + 3 = 69 := by decide +kernel
theorem e_X3_oath_69 : decode cX3_oath 69 = .ok (.bipush 24, 2) ∧ 69 + 2 = 71 := by decide +kernel
theorem e_X3_oath_71 : decode cX3_oath 71 = .ok (.iload_n 3, 1) ∧ 71 + 1 = 72 := by decide +kernel
theorem e_X3_oath_72 : decode cX3_oath 72 = .ok (.iadd, 1) ∧ 72 + 1 = 73 := by decide +kernel
theorem e_X3_oath_73 : decode cX3_oath 73 = .ok (.dup2, 1) ∧ 73 + 1 = 74 := by decide +kernel
theorem e_X3_oath_74 : decode cX3_oath 74 = .ok (.iaload, 1) ∧ 74 + 1 = 75 := by decide +kernel
theorem e_X3_oath_75 : decode cX3_oath 75 = .ok (.iconst 1, 1) ∧ 75 + 1 = 76 := by decide +kernel
theorem e_X3_oath_76 : decode cX3_oath 76 = .ok (.iadd, 1) ∧ 76 + 1 = 77 := by decide +kernel
theorem e_X3_oath_77 : decode cX3_oath 77 = .ok (.iastore, 1) ∧ 77 + 1 = 78 := by decide +kernel
theorem e_X3_oath_78 : decode cX3_oath 78 = .ok (.aload_n 0, 1) ∧ 78 + 1 = 79 := by decide +kernel
theorem e_X3_oath_79 : decode cX3_oath 79 = .ok (.getfield 20, 3) ∧ 79 + 3 = 82 := by decide +kernel
theorem e_X3_oath_82 : decode cX3_oath 82 = .ok (.bipush 24, 2) ∧ 82 + 2 = 84 := by decide +kernel
theorem e_X3_oath_84 : decode cX3_oath 84 = .ok (.iload_n 3, 1) ∧ 84 + 1 = 85 := by decide +kernel
theorem e_X3_oath_85 : decode cX3_oath 85 = .ok (.iadd, 1) ∧ 85 + 1 = 86 := by decide +kernel
theorem e_X3_oath_86 : decode cX3_oath 86 = .ok (.iaload, 1) ∧ 86 + 1 = 87 := by decide +kernel
theorem e_X3_oath_87 : decode cX3_oath 87 = .ok (.ireturn, 1) := by decide +kernel
theorem e_X3_doubt_0 : decode cX3_doubt 0 = .ok (.aload_n 0, 1) ∧ 0 + 1 = 1 := by decide +kernel
theorem e_X3_doubt_1 : decode cX3_doubt 1 = .ok (.iconst 0, 1) ∧ 1 + 1 = 2 := by decide +kernel
theorem e_X3_doubt_2 : decode cX3_doubt 2 = .ok (.putfield 48, 3) ∧ 2 + 3 = 5 := by decide +kernel
theorem e_X3_doubt_5 : decode cX3_doubt 5 = .ok (.aload_n 0, 1) ∧ 5 + 1 = 6 := by decide +kernel
theorem e_X3_doubt_6 : decode cX3_doubt 6 = .ok (.iload_n 1, 1) ∧ 6 + 1 = 7 := by decide +kernel
theorem e_X3_doubt_7 : decode cX3_doubt 7 = .ok (.invokevirtual 139, 3) ∧ 7 + 3 = 10 := by decide +kernel
theorem e_X3_doubt_10 : decode cX3_doubt 10 = .ok (.istore_n 2, 1) ∧ 10 + 1 = 11 := by decide +kernel
theorem e_X3_doubt_11 : decode cX3_doubt 11 = .ok (.iload_n 2, 1) ∧ 11 + 1 = 12 := by decide +kernel
theorem e_X3_doubt_12 : decode cX3_doubt 12 = .ok (.ifCond .eq 5, 3) ∧ 12 + 3 = 15 ∧ ((12 : Nat) : Int) + (5) = ((17 : Nat) : Int) := by decide +kernel
theorem e_X3_doubt_15 : decode cX3_doubt 15 = .ok (.iload_n 2, 1) ∧ 15 + 1 = 16 := by decide +kernel
theorem e_X3_doubt_16 : decode cX3_doubt 16 = .ok (.ireturn, 1) := by decide +kernel
theorem e_X3_doubt_17 : decode cX3_doubt 17 = .ok (.aload_n 0, 1) ∧ 17 + 1 = 18 := by decide +kernel
theorem e_X3_doubt_18 : decode cX3_doubt 18 = .ok (.invokevirtual 142, 3) ∧ 18 + 3 = 21 := by decide +kernel
theorem e_X3_doubt_21 : decode cX3_doubt 21 = .ok (.bipush 12, 2) ∧ 21 + 2 = 23 := by decide +kernel
theorem e_X3_doubt_23 : decode cX3_doubt 23 = .ok (.aload_n 0, 1) ∧ 23 + 1 = 24 := by decide +kernel
theorem e_X3_doubt_24 : decode cX3_doubt 24 = .ok (.getfield 20, 3) ∧ 24 + 3 = 27 := by decide +kernel
theorem e_X3_doubt_27 : decode cX3_doubt 27 = .ok (.bipush 49, 2) ∧ 27 + 2 = 29 := by decide +kernel
theorem e_X3_doubt_29 : decode cX3_doubt 29 = .ok (.iload_n 1, 1) ∧ 29 + 1 = 30 := by decide +kernel
theorem e_X3_doubt_30 : decode cX3_doubt 30 = .ok (.iadd, 1) ∧ 30 + 1 = 31 := by decide +kernel
theorem e_X3_doubt_31 : decode cX3_doubt 31 = .ok (.iaload, 1) ∧ 31 + 1 = 32 := by decide +kernel
theorem e_X3_doubt_32 : decode cX3_doubt 32 = .ok (.iadd, 1) ∧ 32 + 1 = 33 := by decide +kernel
theorem e_X3_doubt_33 : decode cX3_doubt 33 = .ok (.istore_n 3, 1) ∧ 33 + 1 = 34 := by decide +kernel
theorem e_X3_doubt_34 : decode cX3_doubt 34 = .ok (.aload_n 0, 1) ∧ 34 + 1 = 35 := by decide +kernel
theorem e_X3_doubt_35 : decode cX3_doubt 35 = .ok (.getfield 20, 3) ∧ 35 + 3 = 38 := by decide +kernel
theorem e_X3_doubt_38 : decode cX3_doubt 38 = .ok (.iload_n 3, 1) ∧ 38 + 1 = 39 := by decide +kernel
theorem e_X3_doubt_39 : decode cX3_doubt 39 = .ok (.dup2, 1) ∧ 39 + 1 = 40 := by decide +kernel
theorem e_X3_doubt_40 : decode cX3_doubt 40 = .ok (.iaload, 1) ∧ 40 + 1 = 41 := by decide +kernel
theorem e_X3_doubt_41 : decode cX3_doubt 41 = .ok (.aload_n 0, 1) ∧ 41 + 1 = 42 := by decide +kernel
theorem e_X3_doubt_42 : decode cX3_doubt 42 = .ok (.getfield 20, 3) ∧ 42 + 3 = 45 := by decide +kernel
theorem e_X3_doubt_45 : decode cX3_doubt 45 = .ok (.iload_n 3, 1) ∧ 45 + 1 = 46 := by decide +kernel
theorem e_X3_doubt_46 : decode cX3_doubt 46 = .ok (.iaload, 1) ∧ 46 + 1 = 47 := by decide +kernel
theorem e_X3_doubt_47 : decode cX3_doubt 47 = .ok (.ifCond .le 7, 3) ∧ 47 + 3 = 50 ∧ ((47 : Nat) : Int) + (7) = ((54 : Nat) : Int) := by decide +kernel
theorem e_X3_doubt_50 : decode cX3_doubt 50 = .ok (.iconst 1, 1) ∧ 50 + 1 = 51 := by decide +kernel
theorem e_X3_doubt_51 : decode cX3_doubt 51 = .ok (.goto 4, 3) ∧ 51 + 3 = 54 ∧ ((51 : Nat) : Int) + (4) = ((55 : Nat) : Int) := by decide +kernel
theorem e_X3_doubt_54 : decode cX3_doubt 54 = .ok (.iconst 0, 1) ∧ 54 + 1 = 55 := by decide +kernel
theorem e_X3_doubt_55 : decode cX3_doubt 55 = .ok (.isub, 1) ∧ 55 + 1 = 56 := by decide +kernel
theorem e_X3_doubt_56 : decode cX3_doubt 56 = .ok (.iastore, 1) ∧ 56 + 1 = 57 := by decide +kernel
theorem e_X3_doubt_57 : decode cX3_doubt 57 = .ok (.aload_n 0, 1) ∧ 57 + 1 = 58 := by decide +kernel
theorem e_X3_doubt_58 : decode cX3_doubt 58 = .ok (.getfield 20, 3) ∧ 58 + 3 = 61 := by decide +kernel
theorem e_X3_doubt_61 : decode cX3_doubt 61 = .ok (.iload_n 3, 1) ∧ 61 + 1 = 62 := by decide +kernel
theorem e_X3_doubt_62 : decode cX3_doubt 62 = .ok (.iaload, 1) ∧ 62 + 1 = 63 := by decide +kernel
theorem e_X3_doubt_63 : decode cX3_doubt 63 = .ok (.ireturn, 1) := by decide +kernel
theorem e_X3_walk_0 : decode cX3_walk 0 = .ok (.aload_n 0, 1) ∧ 0 + 1 = 1 := by decide +kernel
theorem e_X3_walk_1 : decode cX3_walk 1 = .ok (.iconst 0, 1) ∧ 1 + 1 = 2 := by decide +kernel
theorem e_X3_walk_2 : decode cX3_walk 2 = .ok (.putfield 48, 3) ∧ 2 + 3 = 5 := by decide +kernel
theorem e_X3_walk_5 : decode cX3_walk 5 = .ok (.aload_n 0, 1) ∧ 5 + 1 = 6 := by decide +kernel
theorem e_X3_walk_6 : decode cX3_walk 6 = .ok (.iload_n 1, 1) ∧ 6 + 1 = 7 := by decide +kernel
theorem e_X3_walk_7 : decode cX3_walk 7 = .ok (.invokevirtual 124, 3) ∧ 7 + 3 = 10 := by decide +kernel
theorem e_X3_walk_10 : decode cX3_walk 10 = .ok (.ifCond .ne 10, 3) ∧ 10 + 3 = 13 ∧ ((10 : Nat) : Int) + (10) = ((20 : Nat) : Int) := by decide +kernel
theorem e_X3_walk_13 : decode cX3_walk 13 = .ok (.iload_n 2, 1) ∧ 13 + 1 = 14 := by decide +kernel
theorem e_X3_walk_14 : decode cX3_walk 14 = .ok (.invokestatic 114, 3) ∧ 14 + 3 = 17 := by decide +kernel
theorem e_X3_walk_17 : decode cX3_walk 17 = .ok (.ifCond .eq 5, 3) ∧ 17 + 3 = 20 ∧ ((17 : Nat) : Int) + (5) = ((22 : Nat) : Int) := by decide +kernel
theorem e_X3_walk_20 : decode cX3_walk 20 = .ok (.iconst (-1), 1) ∧ 20 + 1 = 21 := by decide +kernel
theorem e_X3_walk_21 : decode cX3_walk 21 = .ok (.ireturn, 1) := by decide +kernel
theorem e_X3_walk_22 : decode cX3_walk 22 = .ok (.aload_n 0, 1) ∧ 22 + 1 = 23 := by decide +kernel
theorem e_X3_walk_23 : decode cX3_walk 23 = .ok (.getfield 20, 3) ∧ 23 + 3 = 26 := by decide +kernel
theorem e_X3_walk_26 : decode cX3_walk 26 = .ok (.bipush 53, 2) ∧ 26 + 2 = 28 := by decide +kernel
theorem e_X3_walk_28 : decode cX3_walk 28 = .ok (.iaload, 1) ∧ 28 + 1 = 29 := by decide +kernel
theorem e_X3_walk_29 : decode cX3_walk 29 = .ok (.iload_n 1, 1) ∧ 29 + 1 = 30 := by decide +kernel
theorem e_X3_walk_30 : decode cX3_walk 30 = .ok (.invokestatic 70, 3) ∧ 30 + 3 = 33 := by decide +kernel
theorem e_X3_walk_33 : decode cX3_walk 33 = .ok (.ifCond .ne 19, 3) ∧ 33 + 3 = 36 ∧ ((33 : Nat) : Int) + (19) = ((52 : Nat) : Int) := by decide +kernel
theorem e_X3_walk_36 : decode cX3_walk 36 = .ok (.aload_n 0, 1) ∧ 36 + 1 = 37 := by decide +kernel
theorem e_X3_walk_37 : decode cX3_walk 37 = .ok (.getfield 20, 3) ∧ 37 + 3 = 40 := by decide +kernel
theorem e_X3_walk_40 : decode cX3_walk 40 = .ok (.bipush 49, 2) ∧ 40 + 2 = 42 := by decide +kernel
theorem e_X3_walk_42 : decode cX3_walk 42 = .ok (.iload_n 1, 1) ∧ 42 + 1 = 43 := by decide +kernel
theorem e_X3_walk_43 : decode cX3_walk 43 = .ok (.iadd, 1) ∧ 43 + 1 = 44 := by decide +kernel
theorem e_X3_walk_44 : decode cX3_walk 44 = .ok (.iaload, 1) ∧ 44 + 1 = 45 := by decide +kernel
theorem e_X3_walk_45 : decode cX3_walk 45 = .ok (.iload_n 2, 1) ∧ 45 + 1 = 46 := by decide +kernel
theorem e_X3_walk_46 : decode cX3_walk 46 = .ok (.invokestatic 121, 3) ∧ 46 + 3 = 49 := by decide +kernel
theorem e_X3_walk_49 : decode cX3_walk 49 = .ok (.ifCond .ne 6, 3) ∧ 49 + 3 = 52 ∧ ((49 : Nat) : Int) + (6) = ((55 : Nat) : Int) := by decide +kernel
theorem e_X3_walk_52 : decode cX3_walk 52 = .ok (.bipush (-3), 2) ∧ 52 + 2 = 54 := by decide +kernel
theorem e_X3_walk_54 : decode cX3_walk 54 = .ok (.ireturn, 1) := by decide +kernel
theorem e_X3_walk_55 : decode cX3_walk 55 = .ok (.aload_n 0, 1) ∧ 55 + 1 = 56 := by decide +kernel
theorem e_X3_walk_56 : decode cX3_walk 56 = .ok (.invokevirtual 142, 3) ∧ 56 + 3 = 59 := by decide +kernel
theorem e_X3_walk_59 : decode cX3_walk 59 = .ok (.aload_n 0, 1) ∧ 59 + 1 = 60 := by decide +kernel
theorem e_X3_walk_60 : decode cX3_walk 60 = .ok (.getfield 20, 3) ∧ 60 + 3 = 63 := by decide +kernel
theorem e_X3_walk_63 : decode cX3_walk 63 = .ok (.bipush 49, 2) ∧ 63 + 2 = 65 := by decide +kernel
theorem e_X3_walk_65 : decode cX3_walk 65 = .ok (.iload_n 1, 1) ∧ 65 + 1 = 66 := by decide +kernel
theorem e_X3_walk_66 : decode cX3_walk 66 = .ok (.iadd, 1) ∧ 66 + 1 = 67 := by decide +kernel
theorem e_X3_walk_67 : decode cX3_walk 67 = .ok (.iload_n 2, 1) ∧ 67 + 1 = 68 := by decide +kernel
theorem e_X3_walk_68 : decode cX3_walk 68 = .ok (.iastore, 1) ∧ 68 + 1 = 69 := by decide +kernel
theorem e_X3_walk_69 : decode cX3_walk 69 = .ok (.aload_n 0, 1) ∧ 69 + 1 = 70 := by decide +kernel
theorem e_X3_walk_70 : decode cX3_walk 70 = .ok (.iload_n 2, 1) ∧ 70 + 1 = 71 := by decide +kernel
theorem e_X3_walk_71 : decode cX3_walk 71 = .ok (.invokevirtual 118, 3) ∧ 71 + 3 = 74 := by decide +kernel
theorem e_X3_walk_74 : decode cX3_walk 74 = .ok (.iconst 1, 1) ∧ 74 + 1 = 75 := by decide +kernel
theorem e_X3_walk_75 : decode cX3_walk 75 = .ok (.iload_n 1, 1) ∧ 75 + 1 = 76 := by decide +kernel
theorem e_X3_walk_76 : decode cX3_walk 76 = .ok (.ishl, 1) ∧ 76 + 1 = 77 := by decide +kernel
theorem e_X3_walk_77 : decode cX3_walk 77 = .ok (.iconst (-1), 1) ∧ 77 + 1 = 78 := by decide +kernel
theorem e_X3_walk_78 : decode cX3_walk 78 = .ok (.ixor, 1) ∧ 78 + 1 = 79 := by decide +kernel
theorem e_X3_walk_79 : decode cX3_walk 79 = .ok (.iand, 1) ∧ 79 + 1 = 80 := by decide +kernel
theorem e_X3_walk_80 : decode cX3_walk 80 = .ok (.aload_n 0, 1) ∧ 80 + 1 = 81 := by decide +kernel
theorem e_X3_walk_81 : decode cX3_walk 81 = .ok (.getfield 20, 3) ∧ 81 + 3 = 84 := by decide +kernel
theorem e_X3_walk_84 : decode cX3_walk 84 = .ok (.bipush 53, 2) ∧ 84 + 2 = 86 := by decide +kernel
theorem e_X3_walk_86 : decode cX3_walk 86 = .ok (.iaload, 1) ∧ 86 + 1 = 87 := by decide +kernel
theorem e_X3_walk_87 : decode cX3_walk 87 = .ok (.iconst (-1), 1) ∧ 87 + 1 = 88 := by decide +kernel
theorem e_X3_walk_88 : decode cX3_walk 88 = .ok (.ixor, 1) ∧ 88 + 1 = 89 := by decide +kernel
theorem e_X3_walk_89 : decode cX3_walk 89 = .ok (.iand, 1) ∧ 89 + 1 = 90 := by decide +kernel
theorem e_X3_walk_90 : decode cX3_walk 90 = .ok (.ireturn, 1) := by decide +kernel
theorem e_X3_day_0 : decode cX3_day 0 = .ok (.aload_n 0, 1) ∧ 0 + 1 = 1 := by decide +kernel
theorem e_X3_day_1 : decode cX3_day 1 = .ok (.iconst 0, 1) ∧ 1 + 1 = 2 := by decide +kernel
theorem e_X3_day_2 : decode cX3_day 2 = .ok (.putfield 48, 3) ∧ 2 + 3 = 5 := by decide +kernel
theorem e_X3_day_5 : decode cX3_day 5 = .ok (.aload_n 0, 1) ∧ 5 + 1 = 6 := by decide +kernel
theorem e_X3_day_6 : decode cX3_day 6 = .ok (.invokevirtual 142, 3) ∧ 6 + 3 = 9 := by decide +kernel
theorem e_X3_day_9 : decode cX3_day 9 = .ok (.aload_n 0, 1) ∧ 9 + 1 = 10 := by decide +kernel
theorem e_X3_day_10 : decode cX3_day 10 = .ok (.aload_n 0, 1) ∧ 10 + 1 = 11 := by decide +kernel
theorem e_X3_day_11 : decode cX3_day 11 = .ok (.getfield 20, 3) ∧ 11 + 3 = 14 := by decide +kernel
theorem e_X3_day_14 : decode cX3_day 14 = .ok (.invokevirtual 148, 3) ∧ 14 + 3 = 17 := by decide +kernel
theorem e_X3_day_17 : decode cX3_day 17 = .ok (.ireturn, 1) := by decide +kernel
theorem e_X3_undo_0 : decode cX3_undo 0 = .ok (.aload_n 0, 1) ∧ 0 + 1 = 1 := by decide +kernel
theorem e_X3_undo_1 : decode cX3_undo 1 = .ok (.iconst 0, 1) ∧ 1 + 1 = 2 := by decide +kernel
theorem e_X3_undo_2 : decode cX3_undo 2 = .ok (.putfield 48, 3) ∧ 2 + 3 = 5 := by decide +kernel
theorem e_X3_undo_5 : decode cX3_undo 5 = .ok (.aload_n 0, 1) ∧ 5 + 1 = 6 := by decide +kernel
theorem e_X3_undo_6 : decode cX3_undo 6 = .ok (.getfield 108, 3) ∧ 6 + 3 = 9 := by decide +kernel
theorem e_X3_undo_9 : decode cX3_undo 9 = .ok (.ifCond .ne 6, 3) ∧ 9 + 3 = 12 ∧ ((9 : Nat) : Int) + (6) = ((15 : Nat) : Int) := by decide +kernel
theorem e_X3_undo_12 : decode cX3_undo 12 = .ok (.bipush (-3), 2) ∧ 12 + 2 = 14 := by decide +kernel
theorem e_X3_undo_14 : decode cX3_undo 14 = .ok (.ireturn, 1) := by decide +kernel
theorem e_X3_undo_15 : decode cX3_undo 15 = .ok (.aload_n 0, 1) ∧ 15 + 1 = 16 := by decide +kernel
theorem e_X3_undo_16 : decode cX3_undo 16 = .ok (.dup, 1) ∧ 16 + 1 = 17 := by decide +kernel
theorem e_X3_undo_17 : decode cX3_undo 17 = .ok (.getfield 108, 3) ∧ 17 + 3 = 20 := by decide +kernel
theorem e_X3_undo_20 : decode cX3_undo 20 = .ok (.iconst 1, 1) ∧ 20 + 1 = 21 := by decide +kernel
theorem e_X3_undo_21 : decode cX3_undo 21 = .ok (.isub, 1) ∧ 21 + 1 = 22 := by decide +kernel
theorem e_X3_undo_22 : decode cX3_undo 22 = .ok (.putfield 108, 3) ∧ 22 + 3 = 25 := by decide +kernel
theorem e_X3_undo_25 : decode cX3_undo 25 = .ok (.iconst 0, 1) ∧ 25 + 1 = 26 := by decide +kernel
theorem e_X3_undo_26 : decode cX3_undo 26 = .ok (.istore_n 1, 1) ∧ 26 + 1 = 27 := by decide +kernel
theorem e_X3_undo_27 : decode cX3_undo 27 = .ok (.iload_n 1, 1) ∧ 27 + 1 = 28 := by decide +kernel
theorem e_X3_undo_28 : decode cX3_undo 28 = .ok (.bipush 58, 2) ∧ 28 + 2 = 30 := by decide +kernel
theorem e_X3_undo_30 : decode cX3_undo 30 = .ok (.if_icmp .ge 29, 3) ∧ 30 + 3 = 33 ∧ ((30 : Nat) : Int) + (29) = ((59 : Nat) : Int) := by decide +kernel
theorem e_X3_undo_33 : decode cX3_undo 33 = .ok (.aload_n 0, 1) ∧ 33 + 1 = 34 := by decide +kernel
theorem e_X3_undo_34 : decode cX3_undo 34 = .ok (.getfield 20, 3) ∧ 34 + 3 = 37 := by decide +kernel
theorem e_X3_undo_37 : decode cX3_undo 37 = .ok (.iload_n 1, 1) ∧ 37 + 1 = 38 := by decide +kernel
theorem e_X3_undo_38 : decode cX3_undo 38 = .ok (.aload_n 0, 1) ∧ 38 + 1 = 39 := by decide +kernel
theorem e_X3_undo_39 : decode cX3_undo 39 = .ok (.getfield 29, 3) ∧ 39 + 3 = 42 := by decide +kernel
theorem e_X3_undo_42 : decode cX3_undo 42 = .ok (.bipush 58, 2) ∧ 42 + 2 = 44 := by decide +kernel
theorem e_X3_undo_44 : decode cX3_undo 44 = .ok (.aload_n 0, 1) ∧ 44 + 1 = 45 := by decide +kernel
theorem e_X3_undo_45 : decode cX3_undo 45 = .ok (.getfield 108, 3) ∧ 45 + 3 = 48 := by decide +kernel
theorem e_X3_undo_48 : decode cX3_undo 48 = .ok (.imul, 1) ∧ 48 + 1 = 49 := by decide +kernel
theorem e_X3_undo_49 : decode cX3_undo 49 = .ok (.iload_n 1, 1) ∧ 49 + 1 = 50 := by decide +kernel
theorem e_X3_undo_50 : decode cX3_undo 50 = .ok (.iadd, 1) ∧ 50 + 1 = 51 := by decide +kernel
theorem e_X3_undo_51 : decode cX3_undo 51 = .ok (.iaload, 1) ∧ 51 + 1 = 52 := by decide +kernel
theorem e_X3_undo_52 : decode cX3_undo 52 = .ok (.iastore, 1) ∧ 52 + 1 = 53 := by decide +kernel
theorem e_X3_undo_53 : decode cX3_undo 53 = .ok (.iinc 1 1, 3) ∧ 53 + 3 = 56 := by decide +kernel
theorem e_X3_undo_56 : decode cX3_undo 56 = .ok (.goto (-29), 3) ∧ 56 + 3 = 59 ∧ ((56 : Nat) : Int) + (-29) = ((27 : Nat) : Int) := by decide +kernel
theorem e_X3_undo_59 : decode cX3_undo 59 = .ok (.aload_n 0, 1) ∧ 59 + 1 = 60 := by decide +kernel
theorem e_X3_undo_60 : decode cX3_undo 60 = .ok (.getfield 108, 3) ∧ 60 + 3 = 63 := by decide +kernel
theorem e_X3_undo_63 : decode cX3_undo 63 = .ok (.ireturn, 1) := by decide +kernel
theorem e_X3_begin_0 : decode cX3_begin 0 = .ok (.iconst 0, 1) ∧ 0 + 1 = 1 := by decide +kernel
theorem e_X3_begin_1 : decode cX3_begin 1 = .ok (.istore_n 1, 1) ∧ 1 + 1 = 2 := by decide +kernel
theorem e_X3_begin_2 : decode cX3_begin 2 = .ok (.iload_n 1, 1) ∧ 2 + 1 = 3 := by decide +kernel
theorem e_X3_begin_3 : decode cX3_begin 3 = .ok (.bipush 58, 2) ∧ 3 + 2 = 5 := by decide +kernel
theorem e_X3_begin_5 : decode cX3_begin 5 = .ok (.if_icmp .ge 21, 3) ∧ 5 + 3 = 8 ∧ ((5 : Nat) : Int) + (21) = ((26 : Nat) : Int) := by decide +kernel
theorem e_X3_begin_8 : decode cX3_begin 8 = .ok (.aload_n 0, 1) ∧ 8 + 1 = 9 := by decide +kernel
theorem e_X3_begin_9 : decode cX3_begin 9 = .ok (.getfield 45, 3) ∧ 9 + 3 = 12 := by decide +kernel
theorem e_X3_begin_12 : decode cX3_begin 12 = .ok (.iload_n 1, 1) ∧ 12 + 1 = 13 := by decide +kernel
theorem e_X3_begin_13 : decode cX3_begin 13 = .ok (.aload_n 0, 1) ∧ 13 + 1 = 14 := by decide +kernel
theorem e_X3_begin_14 : decode cX3_begin 14 = .ok (.getfield 20, 3) ∧ 14 + 3 = 17 := by decide +kernel
theorem e_X3_begin_17 : decode cX3_begin 17 = .ok (.iload_n 1, 1) ∧ 17 + 1 = 18 := by decide +kernel
theorem e_X3_begin_18 : decode cX3_begin 18 = .ok (.iaload, 1) ∧ 18 + 1 = 19 := by decide +kernel
theorem e_X3_begin_19 : decode cX3_begin 19 = .ok (.iastore, 1) ∧ 19 + 1 = 20 := by decide +kernel
theorem e_X3_begin_20 : decode cX3_begin 20 = .ok (.iinc 1 1, 3) ∧ 20 + 3 = 23 := by decide +kernel
theorem e_X3_begin_23 : decode cX3_begin 23 = .ok (.goto (-21), 3) ∧ 23 + 3 = 26 ∧ ((23 : Nat) : Int) + (-21) = ((2 : Nat) : Int) := by decide +kernel
theorem e_X3_begin_26 : decode cX3_begin 26 = .ok (.return_, 1) := by decide +kernel
theorem e_X3_falls_0 : decode cX3_falls 0 = .ok (.aload_n 0, 1) ∧ 0 + 1 = 1 := by decide +kernel
theorem e_X3_falls_1 : decode cX3_falls 1 = .ok (.iconst 0, 1) ∧ 1 + 1 = 2 := by decide +kernel
theorem e_X3_falls_2 : decode cX3_falls 2 = .ok (.putfield 48, 3) ∧ 2 + 3 = 5 := by decide +kernel
theorem e_X3_falls_5 : decode cX3_falls 5 = .ok (.aload_n 0, 1) ∧ 5 + 1 = 6 := by decide +kernel
theorem e_X3_falls_6 : decode cX3_falls 6 = .ok (.iload_n 1, 1) ∧ 6 + 1 = 7 := by decide +kernel
theorem e_X3_falls_7 : decode cX3_falls 7 = .ok (.invokevirtual 139, 3) ∧ 7 + 3 = 10 := by decide +kernel
theorem e_X3_falls_10 : decode cX3_falls 10 = .ok (.istore_n 2, 1) ∧ 10 + 1 = 11 := by decide +kernel
theorem e_X3_falls_11 : decode cX3_falls 11 = .ok (.iload_n 2, 1) ∧ 11 + 1 = 12 := by decide +kernel
theorem e_X3_falls_12 : decode cX3_falls 12 = .ok (.ifCond .eq 5, 3) ∧ 12 + 3 = 15 ∧ ((12 : Nat) : Int) + (5) = ((17 : Nat) : Int) := by decide +kernel
theorem e_X3_falls_15 : decode cX3_falls 15 = .ok (.iload_n 2, 1) ∧ 15 + 1 = 16 := by decide +kernel
theorem e_X3_falls_16 : decode cX3_falls 16 = .ok (.ireturn, 1) := by decide +kernel
theorem e_X3_falls_17 : decode cX3_falls 17 = .ok (.aload_n 0, 1) ∧ 17 + 1 = 18 := by decide +kernel
theorem e_X3_falls_18 : decode cX3_falls 18 = .ok (.invokevirtual 151, 3) ∧ 18 + 3 = 21 := by decide +kernel
theorem e_X3_falls_21 : decode cX3_falls 21 = .ok (.aload_n 0, 1) ∧ 21 + 1 = 22 := by decide +kernel
theorem e_X3_falls_22 : decode cX3_falls 22 = .ok (.aload_n 0, 1) ∧ 22 + 1 = 23 := by decide +kernel
theorem e_X3_falls_23 : decode cX3_falls 23 = .ok (.getfield 45, 3) ∧ 23 + 3 = 26 := by decide +kernel
theorem e_X3_falls_26 : decode cX3_falls 26 = .ok (.iload_n 1, 1) ∧ 26 + 1 = 27 := by decide +kernel
theorem e_X3_falls_27 : decode cX3_falls 27 = .ok (.invokevirtual 145, 3) ∧ 27 + 3 = 30 := by decide +kernel
theorem e_X3_falls_30 : decode cX3_falls 30 = .ok (.ireturn, 1) := by decide +kernel
theorem e_X3_ten_0 : decode cX3_ten 0 = .ok (.iconst 1, 1) ∧ 0 + 1 = 1 := by decide +kernel
theorem e_X3_ten_1 : decode cX3_ten 1 = .ok (.istore_n 1, 1) ∧ 1 + 1 = 2 := by decide +kernel
theorem e_X3_ten_2 : decode cX3_ten 2 = .ok (.iconst 0, 1) ∧ 2 + 1 = 3 := by decide +kernel
theorem e_X3_ten_3 : decode cX3_ten 3 = .ok (.istore_n 2, 1) ∧ 3 + 1 = 4 := by decide +kernel
theorem e_X3_ten_4 : decode cX3_ten 4 = .ok (.iload_n 2, 1) ∧ 4 + 1 = 5 := by decide +kernel
theorem e_X3_ten_5 : decode cX3_ten 5 = .ok (.iload_n 0, 1) ∧ 5 + 1 = 6 := by decide +kernel
theorem e_X3_ten_6 : decode cX3_ten 6 = .ok (.if_icmp .ge 14, 3) ∧ 6 + 3 = 9 ∧ ((6 : Nat) : Int) + (14) = ((20 : Nat) : Int) := by decide +kernel
theorem e_X3_ten_9 : decode cX3_ten 9 = .ok (.iload_n 1, 1) ∧ 9 + 1 = 10 := by decide +kernel
theorem e_X3_ten_10 : decode cX3_ten 10 = .ok (.bipush 10, 2) ∧ 10 + 2 = 12 := by decide +kernel
theorem e_X3_ten_12 : decode cX3_ten 12 = .ok (.imul, 1) ∧ 12 + 1 = 13 := by decide +kernel
theorem e_X3_ten_13 : decode cX3_ten 13 = .ok (.istore_n 1, 1) ∧ 13 + 1 = 14 := by decide +kernel
theorem e_X3_ten_14 : decode cX3_ten 14 = .ok (.iinc 2 1, 3) ∧ 14 + 3 = 17 := by decide +kernel
theorem e_X3_ten_17 : decode cX3_ten 17 = .ok (.goto (-13), 3) ∧ 17 + 3 = 20 ∧ ((17 : Nat) : Int) + (-13) = ((4 : Nat) : Int) := by decide +kernel
theorem e_X3_ten_20 : decode cX3_ten 20 = .ok (.iload_n 1, 1) ∧ 20 + 1 = 21 := by decide +kernel
theorem e_X3_ten_21 : decode cX3_ten 21 = .ok (.ireturn, 1) := by decide +kernel
theorem e_X3_goPsalm_0 : decode cX3_goPsalm 0 = .ok (.aload_n 0, 1) ∧ 0 + 1 = 1 := by decide +kernel
theorem e_X3_goPsalm_1 : decode cX3_goPsalm 1 = .ok (.invokevirtual 151, 3) ∧ 1 + 3 = 4 := by decide +kernel
theorem e_X3_goPsalm_4 : decode cX3_goPsalm 4 = .ok (.iload_n 1, 1) ∧ 4 + 1 = 5 := by decide +kernel
theorem e_X3_goPsalm_5 : decode cX3_goPsalm 5 = .ok (.invokestatic 154, 3) ∧ 5 + 3 = 8 := by decide +kernel
theorem e_X3_goPsalm_8 : decode cX3_goPsalm 8 = .ok (.istore_n 3, 1) ∧ 8 + 1 = 9 := by decide +kernel
theorem e_X3_goPsalm_9 : decode cX3_goPsalm 9 = .ok (.iconst 0, 1) ∧ 9 + 1 = 10 := by decide +kernel
theorem e_X3_goPsalm_10 : decode cX3_goPsalm 10 = .ok (.istore 4, 2) ∧ 10 + 2 = 12 := by decide +kernel
theorem e_X3_goPsalm_12 : decode cX3_goPsalm 12 = .ok (.iload 4, 2) ∧ 12 + 2 = 14 := by decide +kernel
theorem e_X3_goPsalm_14 : decode cX3_goPsalm 14 = .ok (.iload_n 1, 1) ∧ 14 + 1 = 15 := by decide +kernel
theorem e_X3_goPsalm_15 : decode cX3_goPsalm 15 = .ok (.if_icmp .ge 84, 3) ∧ 15 + 3 = 18 ∧ ((15 : Nat) : Int) + (84) = ((99 : Nat) : Int) := by decide +kernel
theorem e_X3_goPsalm_18 : decode cX3_goPsalm 18 = .ok (.iload_n 3, 1) ∧ 18 + 1 = 19 := by decide +kernel
theorem e_X3_goPsalm_19 : decode cX3_goPsalm 19 = .ok (.bipush 10, 2) ∧ 19 + 2 = 21 := by decide +kernel
theorem e_X3_goPsalm_21 : decode cX3_goPsalm 21 = .ok (.idiv, 1) ∧ 21 + 1 = 22 := by decide +kernel
theorem e_X3_goPsalm_22 : decode cX3_goPsalm 22 = .ok (.istore_n 3, 1) ∧ 22 + 1 = 23 := by decide +kernel
theorem e_X3_goPsalm_23 : decode cX3_goPsalm 23 = .ok (.iload_n 2, 1) ∧ 23 + 1 = 24 := by decide +kernel
theorem e_X3_goPsalm_24 : decode cX3_goPsalm 24 = .ok (.iload_n 3, 1) ∧ 24 + 1 = 25 := by decide +kernel
theorem e_X3_goPsalm_25 : decode cX3_goPsalm 25 = .ok (.idiv, 1) ∧ 25 + 1 = 26 := by decide +kernel
theorem e_X3_goPsalm_26 : decode cX3_goPsalm 26 = .ok (.bipush 10, 2) ∧ 26 + 2 = 28 := by decide +kernel
theorem e_X3_goPsalm_28 : decode cX3_goPsalm 28 = .ok (.irem, 1) ∧ 28 + 1 = 29 := by decide +kernel
theorem e_X3_goPsalm_29 : decode cX3_goPsalm 29 = .ok (.istore 5, 2) ∧ 29 + 2 = 31 := by decide +kernel
theorem e_X3_goPsalm_31 : decode cX3_goPsalm 31 = .ok (.aload_n 0, 1) ∧ 31 + 1 = 32 := by decide +kernel
theorem e_X3_goPsalm_32 : decode cX3_goPsalm 32 = .ok (.iload 5, 2) ∧ 32 + 2 = 34 := by decide +kernel
theorem e_X3_goPsalm_34 : decode cX3_goPsalm 34 = .ok (.invokevirtual 124, 3) ∧ 34 + 3 = 37 := by decide +kernel
theorem e_X3_goPsalm_37 : decode cX3_goPsalm 37 = .ok (.ifCond .ne 18, 3) ∧ 37 + 3 = 40 ∧ ((37 : Nat) : Int) + (18) = ((55 : Nat) : Int) := by decide +kernel
theorem e_X3_goPsalm_40 : decode cX3_goPsalm 40 = .ok (.aload_n 0, 1) ∧ 40 + 1 = 41 := by decide +kernel
theorem e_X3_goPsalm_41 : decode cX3_goPsalm 41 = .ok (.getfield 45, 3) ∧ 41 + 3 = 44 := by decide +kernel
theorem e_X3_goPsalm_44 : decode cX3_goPsalm 44 = .ok (.bipush 53, 2) ∧ 44 + 2 = 46 := by decide +kernel
theorem e_X3_goPsalm_46 : decode cX3_goPsalm 46 = .ok (.iaload, 1) ∧ 46 + 1 = 47 := by decide +kernel
theorem e_X3_goPsalm_47 : decode cX3_goPsalm 47 = .ok (.iload 5, 2) ∧ 47 + 2 = 49 := by decide +kernel
theorem e_X3_goPsalm_49 : decode cX3_goPsalm 49 = .ok (.invokestatic 70, 3) ∧ 49 + 3 = 52 := by decide +kernel
theorem e_X3_goPsalm_52 : decode cX3_goPsalm 52 = .ok (.ifCond .eq 6, 3) ∧ 52 + 3 = 55 ∧ ((52 : Nat) : Int) + (6) = ((58 : Nat) : Int) := by decide +kernel
theorem e_X3_goPsalm_55 : decode cX3_goPsalm 55 = .ok (.iload 4, 2) ∧ 55 + 2 = 57 := by decide +kernel
theorem e_X3_goPsalm_57 : decode cX3_goPsalm 57 = .ok (.ireturn, 1) := by decide +kernel
theorem e_X3_goPsalm_58 : decode cX3_goPsalm 58 = .ok (.aload_n 0, 1) ∧ 58 + 1 = 59 := by decide +kernel
theorem e_X3_goPsalm_59 : decode cX3_goPsalm 59 = .ok (.getfield 45, 3) ∧ 59 + 3 = 62 := by decide +kernel
theorem e_X3_goPsalm_62 : decode cX3_goPsalm 62 = .ok (.bipush 53, 2) ∧ 62 + 2 = 64 := by decide +kernel
theorem e_X3_goPsalm_64 : decode cX3_goPsalm 64 = .ok (.iaload, 1) ∧ 64 + 1 = 65 := by decide +kernel
theorem e_X3_goPsalm_65 : decode cX3_goPsalm 65 = .ok (.istore 6, 2) ∧ 65 + 2 = 67 := by decide +kernel
theorem e_X3_goPsalm_67 : decode cX3_goPsalm 67 = .ok (.aload_n 0, 1) ∧ 67 + 1 = 68 := by decide +kernel
theorem e_X3_goPsalm_68 : decode cX3_goPsalm 68 = .ok (.aload_n 0, 1) ∧ 68 + 1 = 69 := by decide +kernel
theorem e_X3_goPsalm_69 : decode cX3_goPsalm 69 = .ok (.getfield 45, 3) ∧ 69 + 3 = 72 := by decide +kernel
theorem e_X3_goPsalm_72 : decode cX3_goPsalm 72 = .ok (.iload 5, 2) ∧ 72 + 2 = 74 := by decide +kernel
theorem e_X3_goPsalm_74 : decode cX3_goPsalm 74 = .ok (.invokevirtual 145, 3) ∧ 74 + 3 = 77 := by decide +kernel
theorem e_X3_goPsalm_77 : decode cX3_goPsalm 77 = .ok (.pop, 1) ∧ 77 + 1 = 78 := by decide +kernel
theorem e_X3_goPsalm_78 : decode cX3_goPsalm 78 = .ok (.aload_n 0, 1) ∧ 78 + 1 = 79 := by decide +kernel
theorem e_X3_goPsalm_79 : decode cX3_goPsalm 79 = .ok (.getfield 45, 3) ∧ 79 + 3 = 82 := by decide +kernel
theorem e_X3_goPsalm_82 : decode cX3_goPsalm 82 = .ok (.bipush 53, 2) ∧ 82 + 2 = 84 := by decide +kernel
theorem e_X3_goPsalm_84 : decode cX3_goPsalm 84 = .ok (.iaload, 1) ∧ 84 + 1 = 85 := by decide +kernel
theorem e_X3_goPsalm_85 : decode cX3_goPsalm 85 = .ok (.iload 6, 2) ∧ 85 + 2 = 87 := by decide +kernel
theorem e_X3_goPsalm_87 : decode cX3_goPsalm 87 = .ok (.if_icmp .eq 6, 3) ∧ 87 + 3 = 90 ∧ ((87 : Nat) : Int) + (6) = ((93 : Nat) : Int) := by decide +kernel
theorem e_X3_goPsalm_90 : decode cX3_goPsalm 90 = .ok (.iload 4, 2) ∧ 90 + 2 = 92 := by decide +kernel
theorem e_X3_goPsalm_92 : decode cX3_goPsalm 92 = .ok (.ireturn, 1) := by decide +kernel
theorem e_X3_goPsalm_93 : decode cX3_goPsalm 93 = .ok (.iinc 4 1, 3) ∧ 93 + 3 = 96 := by decide +kernel
theorem e_X3_goPsalm_96 : decode cX3_goPsalm 96 = .ok (.goto (-84), 3) ∧ 96 + 3 = 99 ∧ ((96 : Nat) : Int) + (-84) = ((12 : Nat) : Int) := by decide +kernel
theorem e_X3_goPsalm_99 : decode cX3_goPsalm 99 = .ok (.bipush (-9), 2) ∧ 99 + 2 = 101 := by decide +kernel
theorem e_X3_goPsalm_101 : decode cX3_goPsalm 101 = .ok (.ireturn, 1) := by decide +kernel
theorem e_X3_psalm_0 : decode cX3_psalm 0 = .ok (.aload_n 0, 1) ∧ 0 + 1 = 1 := by decide +kernel
theorem e_X3_psalm_1 : decode cX3_psalm 1 = .ok (.iconst 0, 1) ∧ 1 + 1 = 2 := by decide +kernel
theorem e_X3_psalm_2 : decode cX3_psalm 2 = .ok (.putfield 48, 3) ∧ 2 + 3 = 5 := by decide +kernel
theorem e_X3_psalm_5 : decode cX3_psalm 5 = .ok (.iload_n 1, 1) ∧ 5 + 1 = 6 := by decide +kernel
theorem e_X3_psalm_6 : decode cX3_psalm 6 = .ok (.i2l, 1) ∧ 6 + 1 = 7 := by decide +kernel
theorem e_X3_psalm_7 : decode cX3_psalm 7 = .ok (.lconst 1, 1) ∧ 7 + 1 = 8 := by decide +kernel
theorem e_X3_psalm_8 : decode cX3_psalm 8 = .ok (.ldc2_w 60, 3) ∧ 8 + 3 = 11 := by decide +kernel
theorem e_X3_psalm_11 : decode cX3_psalm 11 = .ok (.invokestatic 54, 3) ∧ 11 + 3 = 14 := by decide +kernel
theorem e_X3_psalm_14 : decode cX3_psalm 14 = .ok (.ifCond .eq 28, 3) ∧ 14 + 3 = 17 ∧ ((14 : Nat) : Int) + (28) = ((42 : Nat) : Int) := by decide +kernel
theorem e_X3_psalm_17 : decode cX3_psalm 17 = .ok (.iload_n 2, 1) ∧ 17 + 1 = 18 := by decide +kernel
theorem e_X3_psalm_18 : decode cX3_psalm 18 = .ok (.i2l, 1) ∧ 18 + 1 = 19 := by decide +kernel
theorem e_X3_psalm_19 : decode cX3_psalm 19 = .ok (.lconst 0, 1) ∧ 19 + 1 = 20 := by decide +kernel
theorem e_X3_psalm_20 : decode cX3_psalm 20 = .ok (.iload_n 1, 1) ∧ 20 + 1 = 21 := by decide +kernel
theorem e_X3_psalm_21 : decode cX3_psalm 21 = .ok (.invokestatic 154, 3) ∧ 21 + 3 = 24 := by decide +kernel
theorem e_X3_psalm_24 : decode cX3_psalm 24 = .ok (.iconst 1, 1) ∧ 24 + 1 = 25 := by decide +kernel
theorem e_X3_psalm_25 : decode cX3_psalm 25 = .ok (.isub, 1) ∧ 25 + 1 = 26 := by decide +kernel
theorem e_X3_psalm_26 : decode cX3_psalm 26 = .ok (.i2l, 1) ∧ 26 + 1 = 27 := by decide +kernel
theorem e_X3_psalm_27 : decode cX3_psalm 27 = .ok (.invokestatic 54, 3) ∧ 27 + 3 = 30 := by decide +kernel
theorem e_X3_psalm_30 : decode cX3_psalm 30 = .ok (.ifCond .eq 12, 3) ∧ 30 + 3 = 33 ∧ ((30 : Nat) : Int) + (12) = ((42 : Nat) : Int) := by decide +kernel
theorem e_X3_psalm_33 : decode cX3_psalm 33 = .ok (.aload_n 0, 1) ∧ 33 + 1 = 34 := by decide +kernel
theorem e_X3_psalm_34 : decode cX3_psalm 34 = .ok (.iload_n 1, 1) ∧ 34 + 1 = 35 := by decide +kernel
theorem e_X3_psalm_35 : decode cX3_psalm 35 = .ok (.iload_n 2, 1) ∧ 35 + 1 = 36 := by decide +kernel
theorem e_X3_psalm_36 : decode cX3_psalm 36 = .ok (.invokevirtual 157, 3) ∧ 36 + 3 = 39 := by decide +kernel
theorem e_X3_psalm_39 : decode cX3_psalm 39 = .ok (.goto 5, 3) ∧ 39 + 3 = 42 ∧ ((39 : Nat) : Int) + (5) = ((44 : Nat) : Int) := by decide +kernel
theorem e_X3_psalm_42 : decode cX3_psalm 42 = .ok (.bipush (-2), 2) ∧ 42 + 2 = 44 := by decide +kernel
theorem e_X3_psalm_44 : decode cX3_psalm 44 = .ok (.ireturn, 1) := by decide +kernel
theorem e_X3_findBest_0 : decode cX3_findBest 0 = .ok (.bipush (-9), 2) ∧ 0 + 2 = 2 := by decide +kernel
theorem e_X3_findBest_2 : decode cX3_findBest 2 = .ok (.istore_n 2, 1) ∧ 2 + 1 = 3 := by decide +kernel
theorem e_X3_findBest_3 : decode cX3_findBest 3 = .ok (.iconst 0, 1) ∧ 3 + 1 = 4 := by decide +kernel
theorem e_X3_findBest_4 : decode cX3_findBest 4 = .ok (.istore_n 3, 1) ∧ 4 + 1 = 5 := by decide +kernel
theorem e_X3_findBest_5 : decode cX3_findBest 5 = .ok (.iload_n 3, 1) ∧ 5 + 1 = 6 := by decide +kernel
theorem e_X3_findBest_6 : decode cX3_findBest 6 = .ok (.iload_n 1, 1) ∧ 6 + 1 = 7 := by decide +kernel
theorem e_X3_findBest_7 : decode cX3_findBest 7 = .ok (.invokestatic 154, 3) ∧ 7 + 3 = 10 := by decide +kernel
theorem e_X3_findBest_10 : decode cX3_findBest 10 = .ok (.if_icmp .ge 60, 3) ∧ 10 + 3 = 13 ∧ ((10 : Nat) : Int) + (60) = ((70 : Nat) : Int) := by decide +kernel
theorem e_X3_findBest_13 : decode cX3_findBest 13 = .ok (.aload_n 0, 1) ∧ 13 + 1 = 14 := by decide +kernel
theorem e_X3_findBest_14 : decode cX3_findBest 14 = .ok (.iload_n 1, 1) ∧ 14 + 1 = 15 := by decide +kernel
theorem e_X3_findBest_15 : decode cX3_findBest 15 = .ok (.iload_n 3, 1) ∧ 15 + 1 = 16 := by decide +kernel
theorem e_X3_findBest_16 : decode cX3_findBest 16 = .ok (.invokevirtual 157, 3) ∧ 16 + 3 = 19 := by decide +kernel
theorem e_X3_findBest_19 : decode cX3_findBest 19 = .ok (.bipush (-9), 2) ∧ 19 + 2 = 21 := by decide +kernel
theorem e_X3_findBest_21 : decode cX3_findBest 21 = .ok (.if_icmp .ne 43, 3) ∧ 21 + 3 = 24 ∧ ((21 : Nat) : Int) + (43) = ((64 : Nat) : Int) := by decide +kernel
theorem e_X3_findBest_24 : decode cX3_findBest 24 = .ok (.aload_n 0, 1) ∧ 24 + 1 = 25 := by decide +kernel
theorem e_X3_findBest_25 : decode cX3_findBest 25 = .ok (.getfield 45, 3) ∧ 25 + 3 = 28 := by decide +kernel
theorem e_X3_findBest_28 : decode cX3_findBest 28 = .ok (.bipush 54, 2) ∧ 28 + 2 = 30 := by decide +kernel
theorem e_X3_findBest_30 : decode cX3_findBest 30 = .ok (.iaload, 1) ∧ 30 + 1 = 31 := by decide +kernel
theorem e_X3_findBest_31 : decode cX3_findBest 31 = .ok (.aload_n 0, 1) ∧ 31 + 1 = 32 := by decide +kernel
theorem e_X3_findBest_32 : decode cX3_findBest 32 = .ok (.getfield 20, 3) ∧ 32 + 3 = 35 := by decide +kernel
theorem e_X3_findBest_35 : decode cX3_findBest 35 = .ok (.bipush 54, 2) ∧ 35 + 2 = 37 := by decide +kernel
theorem e_X3_findBest_37 : decode cX3_findBest 37 = .ok (.iaload, 1) ∧ 37 + 1 = 38 := by decide +kernel
theorem e_X3_findBest_38 : decode cX3_findBest 38 = .ok (.isub, 1) ∧ 38 + 1 = 39 := by decide +kernel
theorem e_X3_findBest_39 : decode cX3_findBest 39 = .ok (.iload_n 2, 1) ∧ 39 + 1 = 40 := by decide +kernel
theorem e_X3_findBest_40 : decode cX3_findBest 40 = .ok (.if_icmp .le 24, 3) ∧ 40 + 3 = 43 ∧ ((40 : Nat) : Int) + (24) = ((64 : Nat) : Int) := by decide +kernel
theorem e_X3_findBest_43 : decode cX3_findBest 43 = .ok (.aload_n 0, 1) ∧ 43 + 1 = 44 := by decide +kernel
theorem e_X3_findBest_44 : decode cX3_findBest 44 = .ok (.getfield 45, 3) ∧ 44 + 3 = 47 := by decide +kernel
theorem e_X3_findBest_47 : decode cX3_findBest 47 = .ok (.bipush 54, 2) ∧ 47 + 2 = 49 := by decide +kernel
theorem e_X3_findBest_49 : decode cX3_findBest 49 = .ok (.iaload, 1) ∧ 49 + 1 = 50 := by decide +kernel
theorem e_X3_findBest_50 : decode cX3_findBest 50 = .ok (.aload_n 0, 1) ∧ 50 + 1 = 51 := by decide +kernel
theorem e_X3_findBest_51 : decode cX3_findBest 51 = .ok (.getfield 20, 3) ∧ 51 + 3 = 54 := by decide +kernel
theorem e_X3_findBest_54 : decode cX3_findBest 54 = .ok (.bipush 54, 2) ∧ 54 + 2 = 56 := by decide +kernel
theorem e_X3_findBest_56 : decode cX3_findBest 56 = .ok (.iaload, 1) ∧ 56 + 1 = 57 := by decide +kernel
theorem e_X3_findBest_57 : decode cX3_findBest 57 = .ok (.isub, 1) ∧ 57 + 1 = 58 := by decide +kernel
theorem e_X3_findBest_58 : decode cX3_findBest 58 = .ok (.istore_n 2, 1) ∧ 58 + 1 = 59 := by decide +kernel
theorem e_X3_findBest_59 : decode cX3_findBest 59 = .ok (.aload_n 0, 1) ∧ 59 + 1 = 60 := by decide +kernel
theorem e_X3_findBest_60 : decode cX3_findBest 60 = .ok (.iload_n 3, 1) ∧ 60 + 1 = 61 := by decide +kernel
theorem e_X3_findBest_61 : decode cX3_findBest 61 = .ok (.putfield 160, 3) ∧ 61 + 3 = 64 := by decide +kernel
theorem e_X3_findBest_64 : decode cX3_findBest 64 = .ok (.iinc 3 1, 3) ∧ 64 + 3 = 67 := by decide +kernel
theorem e_X3_findBest_67 : decode cX3_findBest 67 = .ok (.goto (-62), 3) ∧ 67 + 3 = 70 ∧ ((67 : Nat) : Int) + (-62) = ((5 : Nat) : Int) := by decide +kernel
theorem e_X3_findBest_70 : decode cX3_findBest 70 = .ok (.iload_n 2, 1) ∧ 70 + 1 = 71 := by decide +kernel
theorem e_X3_findBest_71 : decode cX3_findBest 71 = .ok (.ireturn, 1) := by decide +kernel
theorem e_X3_best_0 : decode cX3_best 0 = .ok (.aload_n 0, 1) ∧ 0 + 1 = 1 := by decide +kernel
theorem e_X3_best_1 : decode cX3_best 1 = .ok (.iconst 0, 1) ∧ 1 + 1 = 2 := by decide +kernel
theorem e_X3_best_2 : decode cX3_best 2 = .ok (.putfield 48, 3) ∧ 2 + 3 = 5 := by decide +kernel
theorem e_X3_best_5 : decode cX3_best 5 = .ok (.iload_n 1, 1) ∧ 5 + 1 = 6 := by decide +kernel
theorem e_X3_best_6 : decode cX3_best 6 = .ok (.i2l, 1) ∧ 6 + 1 = 7 := by decide +kernel
theorem e_X3_best_7 : decode cX3_best 7 = .ok (.lconst 1, 1) ∧ 7 + 1 = 8 := by decide +kernel
theorem e_X3_best_8 : decode cX3_best 8 = .ok (.ldc2_w 163, 3) ∧ 8 + 3 = 11 := by decide +kernel
theorem e_X3_best_11 : decode cX3_best 11 = .ok (.invokestatic 54, 3) ∧ 11 + 3 = 14 := by decide +kernel
theorem e_X3_best_14 : decode cX3_best 14 = .ok (.ifCond .eq 11, 3) ∧ 14 + 3 = 17 ∧ ((14 : Nat) : Int) + (11) = ((25 : Nat) : Int) := by decide +kernel
theorem e_X3_best_17 : decode cX3_best 17 = .ok (.aload_n 0, 1) ∧ 17 + 1 = 18 := by decide +kernel
theorem e_X3_best_18 : decode cX3_best 18 = .ok (.iload_n 1, 1) ∧ 18 + 1 = 19 := by decide +kernel
theorem e_X3_best_19 : decode cX3_best 19 = .ok (.invokevirtual 165, 3) ∧ 19 + 3 = 22 := by decide +kernel
theorem e_X3_best_22 : decode cX3_best 22 = .ok (.goto 5, 3) ∧ 22 + 3 = 25 ∧ ((22 : Nat) : Int) + (5) = ((27 : Nat) : Int) := by decide +kernel
theorem e_X3_best_25 : decode cX3_best 25 = .ok (.bipush (-2), 2) ∧ 25 + 2 = 27 := by decide +kernel
theorem e_X3_best_27 : decode cX3_best 27 = .ok (.ireturn, 1) := by decide +kernel
theorem e_X3_bestAt_0 : decode cX3_bestAt 0 = .ok (.aload_n 0, 1) ∧ 0 + 1 = 1 := by decide +kernel
theorem e_X3_bestAt_1 : decode cX3_bestAt 1 = .ok (.iconst 0, 1) ∧ 1 + 1 = 2 := by decide +kernel
theorem e_X3_bestAt_2 : decode cX3_bestAt 2 = .ok (.putfield 48, 3) ∧ 2 + 3 = 5 := by decide +kernel
theorem e_X3_bestAt_5 : decode cX3_bestAt 5 = .ok (.iload_n 1, 1) ∧ 5 + 1 = 6 := by decide +kernel
theorem e_X3_bestAt_6 : decode cX3_bestAt 6 = .ok (.i2l, 1) ∧ 6 + 1 = 7 := by decide +kernel
theorem e_X3_bestAt_7 : decode cX3_bestAt 7 = .ok (.lconst 1, 1) ∧ 7 + 1 = 8 := by decide +kernel
theorem e_X3_bestAt_8 : decode cX3_bestAt 8 = .ok (.ldc2_w 163, 3) ∧ 8 + 3 = 11 := by decide +kernel
theorem e_X3_bestAt_11 : decode cX3_bestAt 11 = .ok (.invokestatic 54, 3) ∧ 11 + 3 = 14 := by decide +kernel
theorem e_X3_bestAt_14 : decode cX3_bestAt 14 = .ok (.ifCond .ne 6, 3) ∧ 14 + 3 = 17 ∧ ((14 : Nat) : Int) + (6) = ((20 : Nat) : Int) := by decide +kernel
theorem e_X3_bestAt_17 : decode cX3_bestAt 17 = .ok (.bipush (-2), 2) ∧ 17 + 2 = 19 := by decide +kernel
theorem e_X3_bestAt_19 : decode cX3_bestAt 19 = .ok (.ireturn, 1) := by decide +kernel
theorem e_X3_bestAt_20 : decode cX3_bestAt 20 = .ok (.aload_n 0, 1) ∧ 20 + 1 = 21 := by decide +kernel
theorem e_X3_bestAt_21 : decode cX3_bestAt 21 = .ok (.iload_n 1, 1) ∧ 21 + 1 = 22 := by decide +kernel
theorem e_X3_bestAt_22 : decode cX3_bestAt 22 = .ok (.invokevirtual 165, 3) ∧ 22 + 3 = 25 := by decide +kernel
theorem e_X3_bestAt_25 : decode cX3_bestAt 25 = .ok (.bipush (-9), 2) ∧ 25 + 2 = 27 := by decide +kernel
theorem e_X3_bestAt_27 : decode cX3_bestAt 27 = .ok (.if_icmp .eq 35, 3) ∧ 27 + 3 = 30 ∧ ((27 : Nat) : Int) + (35) = ((62 : Nat) : Int) := by decide +kernel
theorem e_X3_bestAt_30 : decode cX3_bestAt 30 = .ok (.iload_n 2, 1) ∧ 30 + 1 = 31 := by decide +kernel
theorem e_X3_bestAt_31 : decode cX3_bestAt 31 = .ok (.i2l, 1) ∧ 31 + 1 = 32 := by decide +kernel
theorem e_X3_bestAt_32 : decode cX3_bestAt 32 = .ok (.lconst 0, 1) ∧ 32 + 1 = 33 := by decide +kernel
theorem e_X3_bestAt_33 : decode cX3_bestAt 33 = .ok (.iload_n 1, 1) ∧ 33 + 1 = 34 := by decide +kernel
theorem e_X3_bestAt_34 : decode cX3_bestAt 34 = .ok (.iconst 1, 1) ∧ 34 + 1 = 35 := by decide +kernel
theorem e_X3_bestAt_35 : decode cX3_bestAt 35 = .ok (.isub, 1) ∧ 35 + 1 = 36 := by decide +kernel
theorem e_X3_bestAt_36 : decode cX3_bestAt 36 = .ok (.i2l, 1) ∧ 36 + 1 = 37 := by decide +kernel
theorem e_X3_bestAt_37 : decode cX3_bestAt 37 = .ok (.invokestatic 54, 3) ∧ 37 + 3 = 40 := by decide +kernel
theorem e_X3_bestAt_40 : decode cX3_bestAt 40 = .ok (.ifCond .eq 22, 3) ∧ 40 + 3 = 43 ∧ ((40 : Nat) : Int) + (22) = ((62 : Nat) : Int) := by decide +kernel
theorem e_X3_bestAt_43 : decode cX3_bestAt 43 = .ok (.aload_n 0, 1) ∧ 43 + 1 = 44 := by decide +kernel
theorem e_X3_bestAt_44 : decode cX3_bestAt 44 = .ok (.getfield 160, 3) ∧ 44 + 3 = 47 := by decide +kernel
theorem e_X3_bestAt_47 : decode cX3_bestAt 47 = .ok (.iload_n 1, 1) ∧ 47 + 1 = 48 := by decide +kernel
theorem e_X3_bestAt_48 : decode cX3_bestAt 48 = .ok (.iconst 1, 1) ∧ 48 + 1 = 49 := by decide +kernel
theorem e_X3_bestAt_49 : decode cX3_bestAt 49 = .ok (.isub, 1) ∧ 49 + 1 = 50 := by decide +kernel
theorem e_X3_bestAt_50 : decode cX3_bestAt 50 = .ok (.iload_n 2, 1) ∧ 50 + 1 = 51 := by decide +kernel
theorem e_X3_bestAt_51 : decode cX3_bestAt 51 = .ok (.isub, 1) ∧ 51 + 1 = 52 := by decide +kernel
theorem e_X3_bestAt_52 : decode cX3_bestAt 52 = .ok (.invokestatic 154, 3) ∧ 52 + 3 = 55 := by decide +kernel
theorem e_X3_bestAt_55 : decode cX3_bestAt 55 = .ok (.idiv, 1) ∧ 55 + 1 = 56 := by decide +kernel
theorem e_X3_bestAt_56 : decode cX3_bestAt 56 = .ok (.bipush 10, 2) ∧ 56 + 2 = 58 := by decide +kernel
theorem e_X3_bestAt_58 : decode cX3_bestAt 58 = .ok (.irem, 1) ∧ 58 + 1 = 59 := by decide +kernel
theorem e_X3_bestAt_59 : decode cX3_bestAt 59 = .ok (.goto 5, 3) ∧ 59 + 3 = 62 ∧ ((59 : Nat) : Int) + (5) = ((64 : Nat) : Int) := by decide +kernel
theorem e_X3_bestAt_62 : decode cX3_bestAt 62 = .ok (.bipush (-9), 2) ∧ 62 + 2 = 64 := by decide +kernel
theorem e_X3_bestAt_64 : decode cX3_bestAt 64 = .ok (.ireturn, 1) := by decide +kernel
theorem e_X3_oaths_0 : decode cX3_oaths 0 = .ok (.aload_n 0, 1) ∧ 0 + 1 = 1 := by decide +kernel
theorem e_X3_oaths_1 : decode cX3_oaths 1 = .ok (.iconst 0, 1) ∧ 1 + 1 = 2 := by decide +kernel
theorem e_X3_oaths_2 : decode cX3_oaths 2 = .ok (.putfield 48, 3) ∧ 2 + 3 = 5 := by decide +kernel
theorem e_X3_oaths_5 : decode cX3_oaths 5 = .ok (.aload_n 0, 1) ∧ 5 + 1 = 6 := by decide +kernel
theorem e_X3_oaths_6 : decode cX3_oaths 6 = .ok (.invokevirtual 151, 3) ∧ 6 + 3 = 9 := by decide +kernel
theorem e_X3_oaths_9 : decode cX3_oaths 9 = .ok (.iconst 0, 1) ∧ 9 + 1 = 10 := by decide +kernel
theorem e_X3_oaths_10 : decode cX3_oaths 10 = .ok (.istore_n 1, 1) ∧ 10 + 1 = 11 := by decide +kernel
theorem e_X3_oaths_11 : decode cX3_oaths 11 = .ok (.iload_n 1, 1) ∧ 11 + 1 = 12 := by decide +kernel
theorem e_X3_oaths_12 : decode cX3_oaths 12 = .ok (.aload_n 0, 1) ∧ 12 + 1 = 13 := by decide +kernel
theorem e_X3_oaths_13 : decode cX3_oaths 13 = .ok (.getfield 51, 3) ∧ 13 + 3 = 16 := by decide +kernel
theorem e_X3_oaths_16 : decode cX3_oaths 16 = .ok (.if_icmp .ge 91, 3) ∧ 16 + 3 = 19 ∧ ((16 : Nat) : Int) + (91) = ((107 : Nat) : Int) := by decide +kernel
theorem e_X3_oaths_19 : decode cX3_oaths 19 = .ok (.aload_n 0, 1) ∧ 19 + 1 = 20 := by decide +kernel
theorem e_X3_oaths_20 : decode cX3_oaths 20 = .ok (.getfield 45, 3) ∧ 20 + 3 = 23 := by decide +kernel
theorem e_X3_oaths_23 : decode cX3_oaths 23 = .ok (.bipush 53, 2) ∧ 23 + 2 = 25 := by decide +kernel
theorem e_X3_oaths_25 : decode cX3_oaths 25 = .ok (.iaload, 1) ∧ 25 + 1 = 26 := by decide +kernel
theorem e_X3_oaths_26 : decode cX3_oaths 26 = .ok (.iload_n 1, 1) ∧ 26 + 1 = 27 := by decide +kernel
theorem e_X3_oaths_27 : decode cX3_oaths 27 = .ok (.invokestatic 70, 3) ∧ 27 + 3 = 30 := by decide +kernel
theorem e_X3_oaths_30 : decode cX3_oaths 30 = .ok (.ifCond .ne 71, 3) ∧ 30 + 3 = 33 ∧ ((30 : Nat) : Int) + (71) = ((101 : Nat) : Int) := by decide +kernel
theorem e_X3_oaths_33 : decode cX3_oaths 33 = .ok (.aload_n 0, 1) ∧ 33 + 1 = 34 := by decide +kernel
theorem e_X3_oaths_34 : decode cX3_oaths 34 = .ok (.aload_n 0, 1) ∧ 34 + 1 = 35 := by decide +kernel
theorem e_X3_oaths_35 : decode cX3_oaths 35 = .ok (.getfield 45, 3) ∧ 35 + 3 = 38 := by decide +kernel
theorem e_X3_oaths_38 : decode cX3_oaths 38 = .ok (.iload_n 1, 1) ∧ 38 + 1 = 39 := by decide +kernel
theorem e_X3_oaths_39 : decode cX3_oaths 39 = .ok (.invokevirtual 127, 3) ∧ 39 + 3 = 42 := by decide +kernel
theorem e_X3_oaths_42 : decode cX3_oaths 42 = .ok (.istore_n 2, 1) ∧ 42 + 1 = 43 := by decide +kernel
theorem e_X3_oaths_43 : decode cX3_oaths 43 = .ok (.aload_n 0, 1) ∧ 43 + 1 = 44 := by decide +kernel
theorem e_X3_oaths_44 : decode cX3_oaths 44 = .ok (.getfield 45, 3) ∧ 44 + 3 = 47 := by decide +kernel
theorem e_X3_oaths_47 : decode cX3_oaths 47 = .ok (.aload_n 0, 1) ∧ 47 + 1 = 48 := by decide +kernel
theorem e_X3_oaths_48 : decode cX3_oaths 48 = .ok (.getfield 45, 3) ∧ 48 + 3 = 51 := by decide +kernel
theorem e_X3_oaths_51 : decode cX3_oaths 51 = .ok (.bipush 49, 2) ∧ 51 + 2 = 53 := by decide +kernel
theorem e_X3_oaths_53 : decode cX3_oaths 53 = .ok (.iload_n 1, 1) ∧ 53 + 1 = 54 := by decide +kernel
theorem e_X3_oaths_54 : decode cX3_oaths 54 = .ok (.iadd, 1) ∧ 54 + 1 = 55 := by decide +kernel
theorem e_X3_oaths_55 : decode cX3_oaths 55 = .ok (.iaload, 1) ∧ 55 + 1 = 56 := by decide +kernel
theorem e_X3_oaths_56 : decode cX3_oaths 56 = .ok (.iconst 2, 1) ∧ 56 + 1 = 57 := by decide +kernel
theorem e_X3_oaths_57 : decode cX3_oaths 57 = .ok (.iload_n 2, 1) ∧ 57 + 1 = 58 := by decide +kernel
theorem e_X3_oaths_58 : decode cX3_oaths 58 = .ok (.imul, 1) ∧ 58 + 1 = 59 := by decide +kernel
theorem e_X3_oaths_59 : decode cX3_oaths 59 = .ok (.invokestatic 131, 3) ∧ 59 + 3 = 62 := by decide +kernel
theorem e_X3_oaths_62 : decode cX3_oaths 62 = .ok (.iconst 0, 1) ∧ 62 + 1 = 63 := by decide +kernel
theorem e_X3_oaths_63 : decode cX3_oaths 63 = .ok (.istore_n 3, 1) ∧ 63 + 1 = 64 := by decide +kernel
theorem e_X3_oaths_64 : decode cX3_oaths 64 = .ok (.iload_n 3, 1) ∧ 64 + 1 = 65 := by decide +kernel
theorem e_X3_oaths_65 : decode cX3_oaths 65 = .ok (.bipush 12, 2) ∧ 65 + 2 = 67 := by decide +kernel
theorem e_X3_oaths_67 : decode cX3_oaths 67 = .ok (.if_icmp .ge 34, 3) ∧ 67 + 3 = 70 ∧ ((67 : Nat) : Int) + (34) = ((101 : Nat) : Int) := by decide +kernel
theorem e_X3_oaths_70 : decode cX3_oaths 70 = .ok (.aload_n 0, 1) ∧ 70 + 1 = 71 := by decide +kernel
theorem e_X3_oaths_71 : decode cX3_oaths 71 = .ok (.getfield 45, 3) ∧ 71 + 3 = 74 := by decide +kernel
theorem e_X3_oaths_74 : decode cX3_oaths 74 = .ok (.bipush 49, 2) ∧ 74 + 2 = 76 := by decide +kernel
theorem e_X3_oaths_76 : decode cX3_oaths 76 = .ok (.iload_n 1, 1) ∧ 76 + 1 = 77 := by decide +kernel
theorem e_X3_oaths_77 : decode cX3_oaths 77 = .ok (.iadd, 1) ∧ 77 + 1 = 78 := by decide +kernel
theorem e_X3_oaths_78 : decode cX3_oaths 78 = .ok (.iaload, 1) ∧ 78 + 1 = 79 := by decide +kernel
theorem e_X3_oaths_79 : decode cX3_oaths 79 = .ok (.iload_n 3, 1) ∧ 79 + 1 = 80 := by decide +kernel
theorem e_X3_oaths_80 : decode cX3_oaths 80 = .ok (.invokestatic 121, 3) ∧ 80 + 3 = 83 := by decide +kernel
theorem e_X3_oaths_83 : decode cX3_oaths 83 = .ok (.ifCond .eq 12, 3) ∧ 83 + 3 = 86 ∧ ((83 : Nat) : Int) + (12) = ((95 : Nat) : Int) := by decide +kernel
theorem e_X3_oaths_86 : decode cX3_oaths 86 = .ok (.aload_n 0, 1) ∧ 86 + 1 = 87 := by decide +kernel
theorem e_X3_oaths_87 : decode cX3_oaths 87 = .ok (.getfield 45, 3) ∧ 87 + 3 = 90 := by decide +kernel
theorem e_X3_oaths_90 : decode cX3_oaths 90 = .ok (.iload_n 3, 1) ∧ 90 + 1 = 91 := by decide +kernel
theorem e_X3_oaths_91 : decode cX3_oaths 91 = .ok (.iload_n 2, 1) ∧ 91 + 1 = 92 := by decide +kernel
theorem e_X3_oaths_92 : decode cX3_oaths 92 = .ok (.invokestatic 131, 3) ∧ 92 + 3 = 95 := by decide +kernel
theorem e_X3_oaths_95 : decode cX3_oaths 95 = .ok (.iinc 3 1, 3) ∧ 95 + 3 = 98 := by decide +kernel
theorem e_X3_oaths_98 : decode cX3_oaths 98 = .ok (.goto (-34), 3) ∧ 98 + 3 = 101 ∧ ((98 : Nat) : Int) + (-34) = ((64 : Nat) : Int) := by decide +kernel
theorem e_X3_oaths_101 : decode cX3_oaths 101 = .ok (.iinc 1 1, 3) ∧ 101 + 3 = 104 := by decide +kernel
theorem e_X3_oaths_104 : decode cX3_oaths 104 = .ok (.goto (-93), 3) ∧ 104 + 3 = 107 ∧ ((104 : Nat) : Int) + (-93) = ((11 : Nat) : Int) := by decide +kernel
theorem e_X3_oaths_107 : decode cX3_oaths 107 = .ok (.iconst 1, 1) ∧ 107 + 1 = 108 := by decide +kernel
theorem e_X3_oaths_108 : decode cX3_oaths 108 = .ok (.aload_n 0, 1) ∧ 108 + 1 = 109 := by decide +kernel
theorem e_X3_oaths_109 : decode cX3_oaths 109 = .ok (.getfield 51, 3) ∧ 109 + 3 = 112 := by decide +kernel
theorem e_X3_oaths_112 : decode cX3_oaths 112 = .ok (.ishl, 1) ∧ 112 + 1 = 113 := by decide +kernel
theorem e_X3_oaths_113 : decode cX3_oaths 113 = .ok (.iconst 1, 1) ∧ 113 + 1 = 114 := by decide +kernel
theorem e_X3_oaths_114 : decode cX3_oaths 114 = .ok (.isub, 1) ∧ 114 + 1 = 115 := by decide +kernel
theorem e_X3_oaths_115 : decode cX3_oaths 115 = .ok (.aload_n 0, 1) ∧ 115 + 1 = 116 := by decide +kernel
theorem e_X3_oaths_116 : decode cX3_oaths 116 = .ok (.getfield 45, 3) ∧ 116 + 3 = 119 := by decide +kernel
theorem e_X3_oaths_119 : decode cX3_oaths 119 = .ok (.bipush 53, 2) ∧ 119 + 2 = 121 := by decide +kernel
theorem e_X3_oaths_121 : decode cX3_oaths 121 = .ok (.iaload, 1) ∧ 121 + 1 = 122 := by decide +kernel
theorem e_X3_oaths_122 : decode cX3_oaths 122 = .ok (.iconst (-1), 1) ∧ 122 + 1 = 123 := by decide +kernel
theorem e_X3_oaths_123 : decode cX3_oaths 123 = .ok (.ixor, 1) ∧ 123 + 1 = 124 := by decide +kernel
theorem e_X3_oaths_124 : decode cX3_oaths 124 = .ok (.iand, 1) ∧ 124 + 1 = 125 := by decide +kernel
theorem e_X3_oaths_125 : decode cX3_oaths 125 = .ok (.istore_n 1, 1) ∧ 125 + 1 = 126 := by decide +kernel
theorem e_X3_oaths_126 : decode cX3_oaths 126 = .ok (.iconst 0, 1) ∧ 126 + 1 = 127 := by decide +kernel
theorem e_X3_oaths_127 : decode cX3_oaths 127 = .ok (.istore_n 2, 1) ∧ 127 + 1 = 128 := by decide +kernel
theorem e_X3_oaths_128 : decode cX3_oaths 128 = .ok (.iconst 0, 1) ∧ 128 + 1 = 129 := by decide +kernel
theorem e_X3_oaths_129 : decode cX3_oaths 129 = .ok (.istore_n 3, 1) ∧ 129 + 1 = 130 := by decide +kernel
theorem e_X3_oaths_130 : decode cX3_oaths 130 = .ok (.iload_n 3, 1) ∧ 130 + 1 = 131 := by decide +kernel
theorem e_X3_oaths_131 : decode cX3_oaths 131 = .ok (.bipush 12, 2) ∧ 131 + 2 = 133 := by decide +kernel
theorem e_X3_oaths_133 : decode cX3_oaths 133 = .ok (.if_icmp .ge 67, 3) ∧ 133 + 3 = 136 ∧ ((133 : Nat) : Int) + (67) = ((200 : Nat) : Int) := by decide +kernel
theorem e_X3_oaths_136 : decode cX3_oaths 136 = .ok (.aload_n 0, 1) ∧ 136 + 1 = 137 := by decide +kernel
theorem e_X3_oaths_137 : decode cX3_oaths 137 = .ok (.getfield 45, 3) ∧ 137 + 3 = 140 := by decide +kernel
theorem e_X3_oaths_140 : decode cX3_oaths 140 = .ok (.bipush 12, 2) ∧ 140 + 2 = 142 := by decide +kernel
theorem e_X3_oaths_142 : decode cX3_oaths 142 = .ok (.iload_n 3, 1) ∧ 142 + 1 = 143 := by decide +kernel
theorem e_X3_oaths_143 : decode cX3_oaths 143 = .ok (.iadd, 1) ∧ 143 + 1 = 144 := by decide +kernel
theorem e_X3_oaths_144 : decode cX3_oaths 144 = .ok (.iaload, 1) ∧ 144 + 1 = 145 := by decide +kernel
theorem e_X3_oaths_145 : decode cX3_oaths 145 = .ok (.aload_n 0, 1) ∧ 145 + 1 = 146 := by decide +kernel
theorem e_X3_oaths_146 : decode cX3_oaths 146 = .ok (.getfield 13, 3) ∧ 146 + 3 = 149 := by decide +kernel
theorem e_X3_oaths_149 : decode cX3_oaths 149 = .ok (.isub, 1) ∧ 149 + 1 = 150 := by decide +kernel
theorem e_X3_oaths_150 : decode cX3_oaths 150 = .ok (.aload_n 0, 1) ∧ 150 + 1 = 151 := by decide +kernel
theorem e_X3_oaths_151 : decode cX3_oaths 151 = .ok (.getfield 45, 3) ∧ 151 + 3 = 154 := by decide +kernel
theorem e_X3_oaths_154 : decode cX3_oaths 154 = .ok (.bipush 24, 2) ∧ 154 + 2 = 156 := by decide +kernel
theorem e_X3_oaths_156 : decode cX3_oaths 156 = .ok (.iload_n 3, 1) ∧ 156 + 1 = 157 := by decide +kernel
theorem e_X3_oaths_157 : decode cX3_oaths 157 = .ok (.iadd, 1) ∧ 157 + 1 = 158 := by decide +kernel
theorem e_X3_oaths_158 : decode cX3_oaths 158 = .ok (.iaload, 1) ∧ 158 + 1 = 159 := by decide +kernel
theorem e_X3_oaths_159 : decode cX3_oaths 159 = .ok (.isub, 1) ∧ 159 + 1 = 160 := by decide +kernel
theorem e_X3_oaths_160 : decode cX3_oaths 160 = .ok (.istore 4, 2) ∧ 160 + 2 = 162 := by decide +kernel
theorem e_X3_oaths_162 : decode cX3_oaths 162 = .ok (.iload_n 2, 1) ∧ 162 + 1 = 163 := by decide +kernel
theorem e_X3_oaths_163 : decode cX3_oaths 163 = .ok (.iload_n 1, 1) ∧ 163 + 1 = 164 := by decide +kernel
theorem e_X3_oaths_164 : decode cX3_oaths 164 = .ok (.ifCond .eq 27, 3) ∧ 164 + 3 = 167 ∧ ((164 : Nat) : Int) + (27) = ((191 : Nat) : Int) := by decide +kernel
theorem e_X3_oaths_167 : decode cX3_oaths 167 = .ok (.aload_n 0, 1) ∧ 167 + 1 = 168 := by decide +kernel
theorem e_X3_oaths_168 : decode cX3_oaths 168 = .ok (.getfield 45, 3) ∧ 168 + 3 = 171 := by decide +kernel
theorem e_X3_oaths_171 : decode cX3_oaths 171 = .ok (.bipush 48, 2) ∧ 171 + 2 = 173 := by decide +kernel
theorem e_X3_oaths_173 : decode cX3_oaths 173 = .ok (.iaload, 1) ∧ 173 + 1 = 174 := by decide +kernel
theorem e_X3_oaths_174 : decode cX3_oaths 174 = .ok (.iload_n 3, 1) ∧ 174 + 1 = 175 := by decide +kernel
theorem e_X3_oaths_175 : decode cX3_oaths 175 = .ok (.invokestatic 70, 3) ∧ 175 + 3 = 178 := by decide +kernel
theorem e_X3_oaths_178 : decode cX3_oaths 178 = .ok (.ifCond .ne 13, 3) ∧ 178 + 3 = 181 ∧ ((178 : Nat) : Int) + (13) = ((191 : Nat) : Int) := by decide +kernel
theorem e_X3_oaths_181 : decode cX3_oaths 181 = .ok (.iload 4, 2) ∧ 181 + 2 = 183 := by decide +kernel
theorem e_X3_oaths_183 : decode cX3_oaths 183 = .ok (.ifCond .le 8, 3) ∧ 183 + 3 = 186 ∧ ((183 : Nat) : Int) + (8) = ((191 : Nat) : Int) := by decide +kernel
theorem e_X3_oaths_186 : decode cX3_oaths 186 = .ok (.iload 4, 2) ∧ 186 + 2 = 188 := by decide +kernel
theorem e_X3_oaths_188 : decode cX3_oaths 188 = .ok (.goto 4, 3) ∧ 188 + 3 = 191 ∧ ((188 : Nat) : Int) + (4) = ((192 : Nat) : Int) := by decide +kernel
theorem e_X3_oaths_191 : decode cX3_oaths 191 = .ok (.iconst 0, 1) ∧ 191 + 1 = 192 := by decide +kernel
theorem e_X3_oaths_192 : decode cX3_oaths 192 = .ok (.iadd, 1) ∧ 192 + 1 = 193 := by decide +kernel
theorem e_X3_oaths_193 : decode cX3_oaths 193 = .ok (.istore_n 2, 1) ∧ 193 + 1 = 194 := by decide +kernel
theorem e_X3_oaths_194 : decode cX3_oaths 194 = .ok (.iinc 3 1, 3) ∧ 194 + 3 = 197 := by decide +kernel
theorem e_X3_oaths_197 : decode cX3_oaths 197 = .ok (.goto (-67), 3) ∧ 197 + 3 = 200 ∧ ((197 : Nat) : Int) + (-67) = ((130 : Nat) : Int) := by decide +kernel
theorem e_X3_oaths_200 : decode cX3_oaths 200 = .ok (.iload_n 2, 1) ∧ 200 + 1 = 201 := by decide +kernel
theorem e_X3_oaths_201 : decode cX3_oaths 201 = .ok (.ireturn, 1) := by decide +kernel
theorem e_X3_prayAll_0 : decode cX3_prayAll 0 = .ok (.iconst 0, 1) ∧ 0 + 1 = 1 := by decide +kernel
theorem e_X3_prayAll_1 : decode cX3_prayAll 1 = .ok (.istore_n 3, 1) ∧ 1 + 1 = 2 := by decide +kernel
theorem e_X3_prayAll_2 : decode cX3_prayAll 2 = .ok (.iload_n 3, 1) ∧ 2 + 1 = 3 := by decide +kernel
theorem e_X3_prayAll_3 : decode cX3_prayAll 3 = .ok (.aload_n 0, 1) ∧ 3 + 1 = 4 := by decide +kernel
theorem e_X3_prayAll_4 : decode cX3_prayAll 4 = .ok (.getfield 51, 3) ∧ 4 + 3 = 7 := by decide +kernel
theorem e_X3_prayAll_7 : decode cX3_prayAll 7 = .ok (.if_icmp .ge 35, 3) ∧ 7 + 3 = 10 ∧ ((7 : Nat) : Int) + (35) = ((42 : Nat) : Int) := by decide +kernel
theorem e_X3_prayAll_10 : decode cX3_prayAll 10 = .ok (.iload_n 2, 1) ∧ 10 + 1 = 11 := by decide +kernel
theorem e_X3_prayAll_11 : decode cX3_prayAll 11 = .ok (.iload_n 3, 1) ∧ 11 + 1 = 12 := by decide +kernel
theorem e_X3_prayAll_12 : decode cX3_prayAll 12 = .ok (.invokestatic 70, 3) ∧ 12 + 3 = 15 := by decide +kernel
theorem e_X3_prayAll_15 : decode cX3_prayAll 15 = .ok (.ifCond .eq 21, 3) ∧ 15 + 3 = 18 ∧ ((15 : Nat) : Int) + (21) = ((36 : Nat) : Int) := by decide +kernel
theorem e_X3_prayAll_18 : decode cX3_prayAll 18 = .ok (.aload_n 1, 1) ∧ 18 + 1 = 19 := by decide +kernel
theorem e_X3_prayAll_19 : decode cX3_prayAll 19 = .ok (.bipush 53, 2) ∧ 19 + 2 = 21 := by decide +kernel
theorem e_X3_prayAll_21 : decode cX3_prayAll 21 = .ok (.iaload, 1) ∧ 21 + 1 = 22 := by decide +kernel
theorem e_X3_prayAll_22 : decode cX3_prayAll 22 = .ok (.iload_n 3, 1) ∧ 22 + 1 = 23 := by decide +kernel
theorem e_X3_prayAll_23 : decode cX3_prayAll 23 = .ok (.invokestatic 70, 3) ∧ 23 + 3 = 26 := by decide +kernel
theorem e_X3_prayAll_26 : decode cX3_prayAll 26 = .ok (.ifCond .ne 10, 3) ∧ 26 + 3 = 29 ∧ ((26 : Nat) : Int) + (10) = ((36 : Nat) : Int) := by decide +kernel
theorem e_X3_prayAll_29 : decode cX3_prayAll 29 = .ok (.aload_n 0, 1) ∧ 29 + 1 = 30 := by decide +kernel
theorem e_X3_prayAll_30 : decode cX3_prayAll 30 = .ok (.aload_n 1, 1) ∧ 30 + 1 = 31 := by decide +kernel
theorem e_X3_prayAll_31 : decode cX3_prayAll 31 = .ok (.iload_n 3, 1) ∧ 31 + 1 = 32 := by decide +kernel
theorem e_X3_prayAll_32 : decode cX3_prayAll 32 = .ok (.invokevirtual 145, 3) ∧ 32 + 3 = 35 := by decide +kernel
theorem e_X3_prayAll_35 : decode cX3_prayAll 35 = .ok (.pop, 1) ∧ 35 + 1 = 36 := by decide +kernel
theorem e_X3_prayAll_36 : decode cX3_prayAll 36 = .ok (.iinc 3 1, 3) ∧ 36 + 3 = 39 := by decide +kernel
theorem e_X3_prayAll_39 : decode cX3_prayAll 39 = .ok (.goto (-37), 3) ∧ 39 + 3 = 42 ∧ ((39 : Nat) : Int) + (-37) = ((2 : Nat) : Int) := by decide +kernel
theorem e_X3_prayAll_42 : decode cX3_prayAll 42 = .ok (.return_, 1) := by decide +kernel
theorem e_X3_down_0 : decode cX3_down 0 = .ok (.aload_n 0, 1) ∧ 0 + 1 = 1 := by decide +kernel
theorem e_X3_down_1 : decode cX3_down 1 = .ok (.iconst 0, 1) ∧ 1 + 1 = 2 := by decide +kernel
theorem e_X3_down_2 : decode cX3_down 2 = .ok (.putfield 48, 3) ∧ 2 + 3 = 5 := by decide +kernel
theorem e_X3_down_5 : decode cX3_down 5 = .ok (.iload_n 1, 1) ∧ 5 + 1 = 6 := by decide +kernel
theorem e_X3_down_6 : decode cX3_down 6 = .ok (.invokestatic 114, 3) ∧ 6 + 3 = 9 := by decide +kernel
theorem e_X3_down_9 : decode cX3_down 9 = .ok (.ifCond .eq 5, 3) ∧ 9 + 3 = 12 ∧ ((9 : Nat) : Int) + (5) = ((14 : Nat) : Int) := by decide +kernel
theorem e_X3_down_12 : decode cX3_down 12 = .ok (.iconst (-1), 1) ∧ 12 + 1 = 13 := by decide +kernel
theorem e_X3_down_13 : decode cX3_down 13 = .ok (.ireturn, 1) := by decide +kernel
theorem e_X3_down_14 : decode cX3_down 14 = .ok (.aload_n 0, 1) ∧ 14 + 1 = 15 := by decide +kernel
theorem e_X3_down_15 : decode cX3_down 15 = .ok (.invokevirtual 151, 3) ∧ 15 + 3 = 18 := by decide +kernel
theorem e_X3_down_18 : decode cX3_down 18 = .ok (.iconst 0, 1) ∧ 18 + 1 = 19 := by decide +kernel
theorem e_X3_down_19 : decode cX3_down 19 = .ok (.istore_n 2, 1) ∧ 19 + 1 = 20 := by decide +kernel
theorem e_X3_down_20 : decode cX3_down 20 = .ok (.iload_n 2, 1) ∧ 20 + 1 = 21 := by decide +kernel
theorem e_X3_down_21 : decode cX3_down 21 = .ok (.bipush 30, 2) ∧ 21 + 2 = 23 := by decide +kernel
theorem e_X3_down_23 : decode cX3_down 23 = .ok (.if_icmp .gt 44, 3) ∧ 23 + 3 = 26 ∧ ((23 : Nat) : Int) + (44) = ((67 : Nat) : Int) := by decide +kernel
theorem e_X3_down_26 : decode cX3_down 26 = .ok (.aload_n 0, 1) ∧ 26 + 1 = 27 := by decide +kernel
theorem e_X3_down_27 : decode cX3_down 27 = .ok (.getfield 45, 3) ∧ 27 + 3 = 30 := by decide +kernel
theorem e_X3_down_30 : decode cX3_down 30 = .ok (.bipush 48, 2) ∧ 30 + 2 = 32 := by decide +kernel
theorem e_X3_down_32 : decode cX3_down 32 = .ok (.iaload, 1) ∧ 32 + 1 = 33 := by decide +kernel
theorem e_X3_down_33 : decode cX3_down 33 = .ok (.iload_n 1, 1) ∧ 33 + 1 = 34 := by decide +kernel
theorem e_X3_down_34 : decode cX3_down 34 = .ok (.invokestatic 70, 3) ∧ 34 + 3 = 37 := by decide +kernel
theorem e_X3_down_37 : decode cX3_down 37 = .ok (.ifCond .eq 5, 3) ∧ 37 + 3 = 40 ∧ ((37 : Nat) : Int) + (5) = ((42 : Nat) : Int) := by decide +kernel
theorem e_X3_down_40 : decode cX3_down 40 = .ok (.iload_n 2, 1) ∧ 40 + 1 = 41 := by decide +kernel
theorem e_X3_down_41 : decode cX3_down 41 = .ok (.ireturn, 1) := by decide +kernel
theorem e_X3_down_42 : decode cX3_down 42 = .ok (.aload_n 0, 1) ∧ 42 + 1 = 43 := by decide +kernel
theorem e_X3_down_43 : decode cX3_down 43 = .ok (.aload_n 0, 1) ∧ 43 + 1 = 44 := by decide +kernel
theorem e_X3_down_44 : decode cX3_down 44 = .ok (.getfield 45, 3) ∧ 44 + 3 = 47 := by decide +kernel
theorem e_X3_down_47 : decode cX3_down 47 = .ok (.bipush 15, 2) ∧ 47 + 2 = 49 := by decide +kernel
theorem e_X3_down_49 : decode cX3_down 49 = .ok (.invokevirtual 168, 3) ∧ 49 + 3 = 52 := by decide +kernel
theorem e_X3_down_52 : decode cX3_down 52 = .ok (.aload_n 0, 1) ∧ 52 + 1 = 53 := by decide +kernel
theorem e_X3_down_53 : decode cX3_down 53 = .ok (.aload_n 0, 1) ∧ 53 + 1 = 54 := by decide +kernel
theorem e_X3_down_54 : decode cX3_down 54 = .ok (.getfield 45, 3) ∧ 54 + 3 = 57 := by decide +kernel
theorem e_X3_down_57 : decode cX3_down 57 = .ok (.invokevirtual 148, 3) ∧ 57 + 3 = 60 := by decide +kernel
theorem e_X3_down_60 : decode cX3_down 60 = .ok (.pop, 1) ∧ 60 + 1 = 61 := by decide +kernel
theorem e_X3_down_61 : decode cX3_down 61 = .ok (.iinc 2 1, 3) ∧ 61 + 3 = 64 := by decide +kernel
theorem e_X3_down_64 : decode cX3_down 64 = .ok (.goto (-44), 3) ∧ 64 + 3 = 67 ∧ ((64 : Nat) : Int) + (-44) = ((20 : Nat) : Int) := by decide +kernel
theorem e_X3_down_67 : decode cX3_down 67 = .ok (.bipush (-9), 2) ∧ 67 + 2 = 69 := by decide +kernel
theorem e_X3_down_69 : decode cX3_down 69 = .ok (.ireturn, 1) := by decide +kernel
theorem e_X3_see_0 : decode cX3_see 0 = .ok (.aload_n 0, 1) ∧ 0 + 1 = 1 := by decide +kernel
theorem e_X3_see_1 : decode cX3_see 1 = .ok (.iconst 0, 1) ∧ 1 + 1 = 2 := by decide +kernel
theorem e_X3_see_2 : decode cX3_see 2 = .ok (.putfield 48, 3) ∧ 2 + 3 = 5 := by decide +kernel
theorem e_X3_see_5 : decode cX3_see 5 = .ok (.iload_n 1, 1) ∧ 5 + 1 = 6 := by decide +kernel
theorem e_X3_see_6 : decode cX3_see 6 = .ok (.invokestatic 114, 3) ∧ 6 + 3 = 9 := by decide +kernel
theorem e_X3_see_9 : decode cX3_see 9 = .ok (.ifCond .eq 5, 3) ∧ 9 + 3 = 12 ∧ ((9 : Nat) : Int) + (5) = ((14 : Nat) : Int) := by decide +kernel
theorem e_X3_see_12 : decode cX3_see 12 = .ok (.iconst (-1), 1) ∧ 12 + 1 = 13 := by decide +kernel
theorem e_X3_see_13 : decode cX3_see 13 = .ok (.ireturn, 1) := by decide +kernel
theorem e_X3_see_14 : decode cX3_see 14 = .ok (.iload_n 2, 1) ∧ 14 + 1 = 15 := by decide +kernel
theorem e_X3_see_15 : decode cX3_see 15 = .ok (.i2l, 1) ∧ 15 + 1 = 16 := by decide +kernel
theorem e_X3_see_16 : decode cX3_see 16 = .ok (.lconst 0, 1) ∧ 16 + 1 = 17 := by decide +kernel
theorem e_X3_see_17 : decode cX3_see 17 = .ok (.ldc2_w 172, 3) ∧ 17 + 3 = 20 := by decide +kernel
theorem e_X3_see_20 : decode cX3_see 20 = .ok (.invokestatic 54, 3) ∧ 20 + 3 = 23 := by decide +kernel
theorem e_X3_see_23 : decode cX3_see 23 = .ok (.ifCond .ne 6, 3) ∧ 23 + 3 = 26 ∧ ((23 : Nat) : Int) + (6) = ((29 : Nat) : Int) := by decide +kernel
theorem e_X3_see_26 : decode cX3_see 26 = .ok (.bipush (-2), 2) ∧ 26 + 2 = 28 := by decide +kernel
theorem e_X3_see_28 : decode cX3_see 28 = .ok (.ireturn, 1) := by decide +kernel
theorem e_X3_see_29 : decode cX3_see 29 = .ok (.aload_n 0, 1) ∧ 29 + 1 = 30 := by decide +kernel
theorem e_X3_see_30 : decode cX3_see 30 = .ok (.getfield 111, 3) ∧ 30 + 3 = 33 := by decide +kernel
theorem e_X3_see_33 : decode cX3_see 33 = .ok (.bipush 6, 2) ∧ 33 + 2 = 35 := by decide +kernel
theorem e_X3_see_35 : decode cX3_see 35 = .ok (.if_icmp .ne 6, 3) ∧ 35 + 3 = 38 ∧ ((35 : Nat) : Int) + (6) = ((41 : Nat) : Int) := by decide +kernel
theorem e_X3_see_38 : decode cX3_see 38 = .ok (.bipush (-4), 2) ∧ 38 + 2 = 40 := by decide +kernel
theorem e_X3_see_40 : decode cX3_see 40 = .ok (.ireturn, 1) := by decide +kernel
theorem e_X3_see_41 : decode cX3_see 41 = .ok (.aload_n 0, 1) ∧ 41 + 1 = 42 := by decide +kernel
theorem e_X3_see_42 : decode cX3_see 42 = .ok (.getfield 39, 3) ∧ 42 + 3 = 45 := by decide +kernel
theorem e_X3_see_45 : decode cX3_see 45 = .ok (.aload_n 0, 1) ∧ 45 + 1 = 46 := by decide +kernel
theorem e_X3_see_46 : decode cX3_see 46 = .ok (.getfield 111, 3) ∧ 46 + 3 = 49 := by decide +kernel
theorem e_X3_see_49 : decode cX3_see 49 = .ok (.iload_n 1, 1) ∧ 49 + 1 = 50 := by decide +kernel
theorem e_X3_see_50 : decode cX3_see 50 = .ok (.iastore, 1) ∧ 50 + 1 = 51 := by decide +kernel
theorem e_X3_see_51 : decode cX3_see 51 = .ok (.aload_n 0, 1) ∧ 51 + 1 = 52 := by decide +kernel
theorem e_X3_see_52 : decode cX3_see 52 = .ok (.getfield 42, 3) ∧ 52 + 3 = 55 := by decide +kernel
theorem e_X3_see_55 : decode cX3_see 55 = .ok (.aload_n 0, 1) ∧ 55 + 1 = 56 := by decide +kernel
theorem e_X3_see_56 : decode cX3_see 56 = .ok (.getfield 111, 3) ∧ 56 + 3 = 59 := by decide +kernel
theorem e_X3_see_59 : decode cX3_see 59 = .ok (.iload_n 2, 1) ∧ 59 + 1 = 60 := by decide +kernel
theorem e_X3_see_60 : decode cX3_see 60 = .ok (.iastore, 1) ∧ 60 + 1 = 61 := by decide +kernel
theorem e_X3_see_61 : decode cX3_see 61 = .ok (.aload_n 0, 1) ∧ 61 + 1 = 62 := by decide +kernel
theorem e_X3_see_62 : decode cX3_see 62 = .ok (.dup, 1) ∧ 62 + 1 = 63 := by decide +kernel
theorem e_X3_see_63 : decode cX3_see 63 = .ok (.getfield 111, 3) ∧ 63 + 3 = 66 := by decide +kernel
theorem e_X3_see_66 : decode cX3_see 66 = .ok (.iconst 1, 1) ∧ 66 + 1 = 67 := by decide +kernel
theorem e_X3_see_67 : decode cX3_see 67 = .ok (.iadd, 1) ∧ 67 + 1 = 68 := by decide +kernel
theorem e_X3_see_68 : decode cX3_see 68 = .ok (.putfield 111, 3) ∧ 68 + 3 = 71 := by decide +kernel
theorem e_X3_see_71 : decode cX3_see 71 = .ok (.aload_n 0, 1) ∧ 71 + 1 = 72 := by decide +kernel
theorem e_X3_see_72 : decode cX3_see 72 = .ok (.getfield 111, 3) ∧ 72 + 3 = 75 := by decide +kernel
theorem e_X3_see_75 : decode cX3_see 75 = .ok (.ireturn, 1) := by decide +kernel
theorem e_X3_unsee_0 : decode cX3_unsee 0 = .ok (.aload_n 0, 1) ∧ 0 + 1 = 1 := by decide +kernel
theorem e_X3_unsee_1 : decode cX3_unsee 1 = .ok (.iconst 0, 1) ∧ 1 + 1 = 2 := by decide +kernel
theorem e_X3_unsee_2 : decode cX3_unsee 2 = .ok (.putfield 48, 3) ∧ 2 + 3 = 5 := by decide +kernel
theorem e_X3_unsee_5 : decode cX3_unsee 5 = .ok (.aload_n 0, 1) ∧ 5 + 1 = 6 := by decide +kernel
theorem e_X3_unsee_6 : decode cX3_unsee 6 = .ok (.getfield 111, 3) ∧ 6 + 3 = 9 := by decide +kernel
theorem e_X3_unsee_9 : decode cX3_unsee 9 = .ok (.istore_n 1, 1) ∧ 9 + 1 = 10 := by decide +kernel
theorem e_X3_unsee_10 : decode cX3_unsee 10 = .ok (.aload_n 0, 1) ∧ 10 + 1 = 11 := by decide +kernel
theorem e_X3_unsee_11 : decode cX3_unsee 11 = .ok (.iconst 0, 1) ∧ 11 + 1 = 12 := by decide +kernel
theorem e_X3_unsee_12 : decode cX3_unsee 12 = .ok (.putfield 111, 3) ∧ 12 + 3 = 15 := by decide +kernel
theorem e_X3_unsee_15 : decode cX3_unsee 15 = .ok (.iload_n 1, 1) ∧ 15 + 1 = 16 := by decide +kernel
theorem e_X3_unsee_16 : decode cX3_unsee 16 = .ok (.ireturn, 1) := by decide +kernel
theorem e_X3_silent_0 : decode cX3_silent 0 = .ok (.aload_n 0, 1) ∧ 0 + 1 = 1 := by decide +kernel
theorem e_X3_silent_1 : decode cX3_silent 1 = .ok (.iconst 0, 1) ∧ 1 + 1 = 2 := by decide +kernel
theorem e_X3_silent_2 : decode cX3_silent 2 = .ok (.putfield 48, 3) ∧ 2 + 3 = 5 := by decide +kernel
theorem e_X3_silent_5 : decode cX3_silent 5 = .ok (.iload_n 1, 1) ∧ 5 + 1 = 6 := by decide +kernel
theorem e_X3_silent_6 : decode cX3_silent 6 = .ok (.i2l, 1) ∧ 6 + 1 = 7 := by decide +kernel
theorem e_X3_silent_7 : decode cX3_silent 7 = .ok (.lconst 0, 1) ∧ 7 + 1 = 8 := by decide +kernel
theorem e_X3_silent_8 : decode cX3_silent 8 = .ok (.lconst 1, 1) ∧ 8 + 1 = 9 := by decide +kernel
theorem e_X3_silent_9 : decode cX3_silent 9 = .ok (.invokestatic 54, 3) ∧ 9 + 3 = 12 := by decide +kernel
theorem e_X3_silent_12 : decode cX3_silent 12 = .ok (.ifCond .ne 6, 3) ∧ 12 + 3 = 15 ∧ ((12 : Nat) : Int) + (6) = ((18 : Nat) : Int) := by decide +kernel
theorem e_X3_silent_15 : decode cX3_silent 15 = .ok (.bipush (-2), 2) ∧ 15 + 2 = 17 := by decide +kernel
theorem e_X3_silent_17 : decode cX3_silent 17 = .ok (.ireturn, 1) := by decide +kernel
theorem e_X3_silent_18 : decode cX3_silent 18 = .ok (.iconst 0, 1) ∧ 18 + 1 = 19 := by decide +kernel
theorem e_X3_silent_19 : decode cX3_silent 19 = .ok (.istore_n 2, 1) ∧ 19 + 1 = 20 := by decide +kernel
theorem e_X3_silent_20 : decode cX3_silent 20 = .ok (.bipush (-9), 2) ∧ 20 + 2 = 22 := by decide +kernel
theorem e_X3_silent_22 : decode cX3_silent 22 = .ok (.istore_n 3, 1) ∧ 22 + 1 = 23 := by decide +kernel
theorem e_X3_silent_23 : decode cX3_silent 23 = .ok (.iconst 0, 1) ∧ 23 + 1 = 24 := by decide +kernel
theorem e_X3_silent_24 : decode cX3_silent 24 = .ok (.istore 4, 2) ∧ 24 + 2 = 26 := by decide +kernel
theorem e_X3_silent_26 : decode cX3_silent 26 = .ok (.iload 4, 2) ∧ 26 + 2 = 28 := by decide +kernel
theorem e_X3_silent_28 : decode cX3_silent 28 = .ok (.iconst 1, 1) ∧ 28 + 1 = 29 := by decide +kernel
theorem e_X3_silent_29 : decode cX3_silent 29 = .ok (.aload_n 0, 1) ∧ 29 + 1 = 30 := by decide +kernel
theorem e_X3_silent_30 : decode cX3_silent 30 = .ok (.getfield 51, 3) ∧ 30 + 3 = 33 := by decide +kernel
theorem e_X3_silent_33 : decode cX3_silent 33 = .ok (.ishl, 1) ∧ 33 + 1 = 34 := by decide +kernel
theorem e_X3_silent_34 : decode cX3_silent 34 = .ok (.if_icmp .ge 142, 3) ∧ 34 + 3 = 37 ∧ ((34 : Nat) : Int) + (142) = ((176 : Nat) : Int) := by decide +kernel
theorem e_X3_silent_37 : decode cX3_silent 37 = .ok (.iload 4, 2) ∧ 37 + 2 = 39 := by decide +kernel
theorem e_X3_silent_39 : decode cX3_silent 39 = .ok (.aload_n 0, 1) ∧ 39 + 1 = 40 := by decide +kernel
theorem e_X3_silent_40 : decode cX3_silent 40 = .ok (.getfield 20, 3) ∧ 40 + 3 = 43 := by decide +kernel
theorem e_X3_silent_43 : decode cX3_silent 43 = .ok (.bipush 53, 2) ∧ 43 + 2 = 45 := by decide +kernel
theorem e_X3_silent_45 : decode cX3_silent 45 = .ok (.iaload, 1) ∧ 45 + 1 = 46 := by decide +kernel
theorem e_X3_silent_46 : decode cX3_silent 46 = .ok (.iand, 1) ∧ 46 + 1 = 47 := by decide +kernel
theorem e_X3_silent_47 : decode cX3_silent 47 = .ok (.ifCond .ne 123, 3) ∧ 47 + 3 = 50 ∧ ((47 : Nat) : Int) + (123) = ((170 : Nat) : Int) := by decide +kernel
theorem e_X3_silent_50 : decode cX3_silent 50 = .ok (.aload_n 0, 1) ∧ 50 + 1 = 51 := by decide +kernel
theorem e_X3_silent_51 : decode cX3_silent 51 = .ok (.invokevirtual 151, 3) ∧ 51 + 3 = 54 := by decide +kernel
theorem e_X3_silent_54 : decode cX3_silent 54 = .ok (.aload_n 0, 1) ∧ 54 + 1 = 55 := by decide +kernel
theorem e_X3_silent_55 : decode cX3_silent 55 = .ok (.aload_n 0, 1) ∧ 55 + 1 = 56 := by decide +kernel
theorem e_X3_silent_56 : decode cX3_silent 56 = .ok (.getfield 45, 3) ∧ 56 + 3 = 59 := by decide +kernel
theorem e_X3_silent_59 : decode cX3_silent 59 = .ok (.iload 4, 2) ∧ 59 + 2 = 61 := by decide +kernel
theorem e_X3_silent_61 : decode cX3_silent 61 = .ok (.invokevirtual 168, 3) ∧ 61 + 3 = 64 := by decide +kernel
theorem e_X3_silent_64 : decode cX3_silent 64 = .ok (.iconst 1, 1) ∧ 64 + 1 = 65 := by decide +kernel
theorem e_X3_silent_65 : decode cX3_silent 65 = .ok (.istore 5, 2) ∧ 65 + 2 = 67 := by decide +kernel
theorem e_X3_silent_67 : decode cX3_silent 67 = .ok (.iconst 0, 1) ∧ 67 + 1 = 68 := by decide +kernel
theorem e_X3_silent_68 : decode cX3_silent 68 = .ok (.istore 6, 2) ∧ 68 + 2 = 70 := by decide +kernel
theorem e_X3_silent_70 : decode cX3_silent 70 = .ok (.iload 6, 2) ∧ 70 + 2 = 72 := by decide +kernel
theorem e_X3_silent_72 : decode cX3_silent 72 = .ok (.aload_n 0, 1) ∧ 72 + 1 = 73 := by decide +kernel
theorem e_X3_silent_73 : decode cX3_silent 73 = .ok (.getfield 111, 3) ∧ 73 + 3 = 76 := by decide +kernel
theorem e_X3_silent_76 : decode cX3_silent 76 = .ok (.if_icmp .ge 70, 3) ∧ 76 + 3 = 79 ∧ ((76 : Nat) : Int) + (70) = ((146 : Nat) : Int) := by decide +kernel
theorem e_X3_silent_79 : decode cX3_silent 79 = .ok (.aload_n 0, 1) ∧ 79 + 1 = 80 := by decide +kernel
theorem e_X3_silent_80 : decode cX3_silent 80 = .ok (.getfield 39, 3) ∧ 80 + 3 = 83 := by decide +kernel
theorem e_X3_silent_83 : decode cX3_silent 83 = .ok (.iload 6, 2) ∧ 83 + 2 = 85 := by decide +kernel
theorem e_X3_silent_85 : decode cX3_silent 85 = .ok (.iaload, 1) ∧ 85 + 1 = 86 := by decide +kernel
theorem e_X3_silent_86 : decode cX3_silent 86 = .ok (.istore 7, 2) ∧ 86 + 2 = 88 := by decide +kernel
theorem e_X3_silent_88 : decode cX3_silent 88 = .ok (.iload 5, 2) ∧ 88 + 2 = 90 := by decide +kernel
theorem e_X3_silent_90 : decode cX3_silent 90 = .ok (.ifCond .eq 47, 3) ∧ 90 + 3 = 93 ∧ ((90 : Nat) : Int) + (47) = ((137 : Nat) : Int) := by decide +kernel
theorem e_X3_silent_93 : decode cX3_silent 93 = .ok (.aload_n 0, 1) ∧ 93 + 1 = 94 := by decide +kernel
theorem e_X3_silent_94 : decode cX3_silent 94 = .ok (.getfield 42, 3) ∧ 94 + 3 = 97 := by decide +kernel
theorem e_X3_silent_97 : decode cX3_silent 97 = .ok (.iload 6, 2) ∧ 97 + 2 = 99 := by decide +kernel
theorem e_X3_silent_99 : decode cX3_silent 99 = .ok (.iaload, 1) ∧ 99 + 1 = 100 := by decide +kernel
theorem e_X3_silent_100 : decode cX3_silent 100 = .ok (.aload_n 0, 1) ∧ 100 + 1 = 101 := by decide +kernel
theorem e_X3_silent_101 : decode cX3_silent 101 = .ok (.getfield 45, 3) ∧ 101 + 3 = 104 := by decide +kernel
theorem e_X3_silent_104 : decode cX3_silent 104 = .ok (.bipush 48, 2) ∧ 104 + 2 = 106 := by decide +kernel
theorem e_X3_silent_106 : decode cX3_silent 106 = .ok (.iaload, 1) ∧ 106 + 1 = 107 := by decide +kernel
theorem e_X3_silent_107 : decode cX3_silent 107 = .ok (.iload 7, 2) ∧ 107 + 2 = 109 := by decide +kernel
theorem e_X3_silent_109 : decode cX3_silent 109 = .ok (.invokestatic 70, 3) ∧ 109 + 3 = 112 := by decide +kernel
theorem e_X3_silent_112 : decode cX3_silent 112 = .ok (.ifCond .eq 8, 3) ∧ 112 + 3 = 115 ∧ ((112 : Nat) : Int) + (8) = ((120 : Nat) : Int) := by decide +kernel
theorem e_X3_silent_115 : decode cX3_silent 115 = .ok (.bipush 100, 2) ∧ 115 + 2 = 117 := by decide +kernel
theorem e_X3_silent_117 : decode cX3_silent 117 = .ok (.goto 13, 3) ∧ 117 + 3 = 120 ∧ ((117 : Nat) : Int) + (13) = ((130 : Nat) : Int) := by decide +kernel
theorem e_X3_silent_120 : decode cX3_silent 120 = .ok (.aload_n 0, 1) ∧ 120 + 1 = 121 := by decide +kernel
theorem e_X3_silent_121 : decode cX3_silent 121 = .ok (.getfield 45, 3) ∧ 121 + 3 = 124 := by decide +kernel
theorem e_X3_silent_124 : decode cX3_silent 124 = .ok (.bipush 12, 2) ∧ 124 + 2 = 126 := by decide +kernel
theorem e_X3_silent_126 : decode cX3_silent 126 = .ok (.iload 7, 2) ∧ 126 + 2 = 128 := by decide +kernel
theorem e_X3_silent_128 : decode cX3_silent 128 = .ok (.iadd, 1) ∧ 128 + 1 = 129 := by decide +kernel
theorem e_X3_silent_129 : decode cX3_silent 129 = .ok (.iaload, 1) ∧ 129 + 1 = 130 := by decide +kernel
theorem e_X3_silent_130 : decode cX3_silent 130 = .ok (.if_icmp .ne 7, 3) ∧ 130 + 3 = 133 ∧ ((130 : Nat) : Int) + (7) = ((137 : Nat) : Int) := by decide +kernel
theorem e_X3_silent_133 : decode cX3_silent 133 = .ok (.iconst 1, 1) ∧ 133 + 1 = 134 := by decide +kernel
theorem e_X3_silent_134 : decode cX3_silent 134 = .ok (.goto 4, 3) ∧ 134 + 3 = 137 ∧ ((134 : Nat) : Int) + (4) = ((138 : Nat) : Int) := by decide +kernel
theorem e_X3_silent_137 : decode cX3_silent 137 = .ok (.iconst 0, 1) ∧ 137 + 1 = 138 := by decide +kernel
theorem e_X3_silent_138 : decode cX3_silent 138 = .ok (.istore 5, 2) ∧ 138 + 2 = 140 := by decide +kernel
theorem e_X3_silent_140 : decode cX3_silent 140 = .ok (.iinc 6 1, 3) ∧ 140 + 3 = 143 := by decide +kernel
theorem e_X3_silent_143 : decode cX3_silent 143 = .ok (.goto (-73), 3) ∧ 143 + 3 = 146 ∧ ((143 : Nat) : Int) + (-73) = ((70 : Nat) : Int) := by decide +kernel
theorem e_X3_silent_146 : decode cX3_silent 146 = .ok (.iload 5, 2) ∧ 146 + 2 = 148 := by decide +kernel
theorem e_X3_silent_148 : decode cX3_silent 148 = .ok (.ifCond .eq 22, 3) ∧ 148 + 3 = 151 ∧ ((148 : Nat) : Int) + (22) = ((170 : Nat) : Int) := by decide +kernel
theorem e_X3_silent_151 : decode cX3_silent 151 = .ok (.iinc 2 1, 3) ∧ 151 + 3 = 154 := by decide +kernel
theorem e_X3_silent_154 : decode cX3_silent 154 = .ok (.iload_n 3, 1) ∧ 154 + 1 = 155 := by decide +kernel
theorem e_X3_silent_155 : decode cX3_silent 155 = .ok (.bipush (-9), 2) ∧ 155 + 2 = 157 := by decide +kernel
theorem e_X3_silent_157 : decode cX3_silent 157 = .ok (.if_icmp .ne 8, 3) ∧ 157 + 3 = 160 ∧ ((157 : Nat) : Int) + (8) = ((165 : Nat) : Int) := by decide +kernel
theorem e_X3_silent_160 : decode cX3_silent 160 = .ok (.iload 4, 2) ∧ 160 + 2 = 162 := by decide +kernel
theorem e_X3_silent_162 : decode cX3_silent 162 = .ok (.goto 7, 3) ∧ 162 + 3 = 165 ∧ ((162 : Nat) : Int) + (7) = ((169 : Nat) : Int) := by decide +kernel
theorem e_X3_silent_165 : decode cX3_silent 165 = .ok (.iload_n 3, 1) ∧ 165 + 1 = 166 := by decide +kernel
theorem e_X3_silent_166 : decode cX3_silent 166 = .ok (.iload 4, 2) ∧ 166 + 2 = 168 := by decide +kernel
theorem e_X3_silent_168 : decode cX3_silent 168 = .ok (.iand, 1) ∧ 168 + 1 = 169 := by decide +kernel
theorem e_X3_silent_169 : decode cX3_silent 169 = .ok (.istore_n 3, 1) ∧ 169 + 1 = 170 := by decide +kernel
theorem e_X3_silent_170 : decode cX3_silent 170 = .ok (.iinc 4 1, 3) ∧ 170 + 3 = 173 := by decide +kernel
theorem e_X3_silent_173 : decode cX3_silent 173 = .ok (.goto (-147), 3) ∧ 173 + 3 = 176 ∧ ((173 : Nat) : Int) + (-147) = ((26 : Nat) : Int) := by decide +kernel
theorem e_X3_silent_176 : decode cX3_silent 176 = .ok (.iload_n 1, 1) ∧ 176 + 1 = 177 := by decide +kernel
theorem e_X3_silent_177 : decode cX3_silent 177 = .ok (.ifCond .ne 7, 3) ∧ 177 + 3 = 180 ∧ ((177 : Nat) : Int) + (7) = ((184 : Nat) : Int) := by decide +kernel
theorem e_X3_silent_180 : decode cX3_silent 180 = .ok (.iload_n 2, 1) ∧ 180 + 1 = 181 := by decide +kernel
theorem e_X3_silent_181 : decode cX3_silent 181 = .ok (.goto 4, 3) ∧ 181 + 3 = 184 ∧ ((181 : Nat) : Int) + (4) = ((185 : Nat) : Int) := by decide +kernel
theorem e_X3_silent_184 : decode cX3_silent 184 = .ok (.iload_n 3, 1) ∧ 184 + 1 = 185 := by decide +kernel
theorem e_X3_silent_185 : decode cX3_silent 185 = .ok (.ireturn, 1) := by decide +kernel
theorem e_X3_divisor_0 : decode cX3_divisor 0 = .ok (.iload_n 0, 1) ∧ 0 + 1 = 1 := by decide +kernel
theorem e_X3_divisor_1 : decode cX3_divisor 1 = .ok (.istore_n 2, 1) ∧ 1 + 1 = 2 := by decide +kernel
theorem e_X3_divisor_2 : decode cX3_divisor 2 = .ok (.iload_n 1, 1) ∧ 2 + 1 = 3 := by decide +kernel
theorem e_X3_divisor_3 : decode cX3_divisor 3 = .ok (.istore_n 3, 1) ∧ 3 + 1 = 4 := by decide +kernel
theorem e_X3_divisor_4 : decode cX3_divisor 4 = .ok (.iload_n 3, 1) ∧ 4 + 1 = 5 := by decide +kernel
theorem e_X3_divisor_5 : decode cX3_divisor 5 = .ok (.ifCond .eq 16, 3) ∧ 5 + 3 = 8 ∧ ((5 : Nat) : Int) + (16) = ((21 : Nat) : Int) := by decide +kernel
theorem e_X3_divisor_8 : decode cX3_divisor 8 = .ok (.iload_n 2, 1) ∧ 8 + 1 = 9 := by decide +kernel
theorem e_X3_divisor_9 : decode cX3_divisor 9 = .ok (.iload_n 3, 1) ∧ 9 + 1 = 10 := by decide +kernel
theorem e_X3_divisor_10 : decode cX3_divisor 10 = .ok (.irem, 1) ∧ 10 + 1 = 11 := by decide +kernel
theorem e_X3_divisor_11 : decode cX3_divisor 11 = .ok (.istore 4, 2) ∧ 11 + 2 = 13 := by decide +kernel
theorem e_X3_divisor_13 : decode cX3_divisor 13 = .ok (.iload_n 3, 1) ∧ 13 + 1 = 14 := by decide +kernel
theorem e_X3_divisor_14 : decode cX3_divisor 14 = .ok (.istore_n 2, 1) ∧ 14 + 1 = 15 := by decide +kernel
theorem e_X3_divisor_15 : decode cX3_divisor 15 = .ok (.iload 4, 2) ∧ 15 + 2 = 17 := by decide +kernel
theorem e_X3_divisor_17 : decode cX3_divisor 17 = .ok (.istore_n 3, 1) ∧ 17 + 1 = 18 := by decide +kernel
theorem e_X3_divisor_18 : decode cX3_divisor 18 = .ok (.goto (-14), 3) ∧ 18 + 3 = 21 ∧ ((18 : Nat) : Int) + (-14) = ((4 : Nat) : Int) := by decide +kernel
theorem e_X3_divisor_21 : decode cX3_divisor 21 = .ok (.iload_n 2, 1) ∧ 21 + 1 = 22 := by decide +kernel
theorem e_X3_divisor_22 : decode cX3_divisor 22 = .ok (.ireturn, 1) := by decide +kernel
theorem e_X3_chance_0 : decode cX3_chance 0 = .ok (.aload_n 0, 1) ∧ 0 + 1 = 1 := by decide +kernel
theorem e_X3_chance_1 : decode cX3_chance 1 = .ok (.iconst 0, 1) ∧ 1 + 1 = 2 := by decide +kernel
theorem e_X3_chance_2 : decode cX3_chance 2 = .ok (.putfield 48, 3) ∧ 2 + 3 = 5 := by decide +kernel
theorem e_X3_chance_5 : decode cX3_chance 5 = .ok (.iload_n 1, 1) ∧ 5 + 1 = 6 := by decide +kernel
theorem e_X3_chance_6 : decode cX3_chance 6 = .ok (.invokestatic 114, 3) ∧ 6 + 3 = 9 := by decide +kernel
theorem e_X3_chance_9 : decode cX3_chance 9 = .ok (.ifCond .eq 5, 3) ∧ 9 + 3 = 12 ∧ ((9 : Nat) : Int) + (5) = ((14 : Nat) : Int) := by decide +kernel
theorem e_X3_chance_12 : decode cX3_chance 12 = .ok (.iconst (-1), 1) ∧ 12 + 1 = 13 := by decide +kernel
theorem e_X3_chance_13 : decode cX3_chance 13 = .ok (.ireturn, 1) := by decide +kernel
theorem e_X3_chance_14 : decode cX3_chance 14 = .ok (.iload_n 2, 1) ∧ 14 + 1 = 15 := by decide +kernel
theorem e_X3_chance_15 : decode cX3_chance 15 = .ok (.i2l, 1) ∧ 15 + 1 = 16 := by decide +kernel
theorem e_X3_chance_16 : decode cX3_chance 16 = .ok (.lconst 0, 1) ∧ 16 + 1 = 17 := by decide +kernel
theorem e_X3_chance_17 : decode cX3_chance 17 = .ok (.ldc2_w 174, 3) ∧ 17 + 3 = 20 := by decide +kernel
theorem e_X3_chance_20 : decode cX3_chance 20 = .ok (.invokestatic 54, 3) ∧ 20 + 3 = 23 := by decide +kernel
theorem e_X3_chance_23 : decode cX3_chance 23 = .ok (.ifCond .ne 6, 3) ∧ 23 + 3 = 26 ∧ ((23 : Nat) : Int) + (6) = ((29 : Nat) : Int) := by decide +kernel
theorem e_X3_chance_26 : decode cX3_chance 26 = .ok (.bipush (-2), 2) ∧ 26 + 2 = 28 := by decide +kernel
theorem e_X3_chance_28 : decode cX3_chance 28 = .ok (.ireturn, 1) := by decide +kernel
theorem e_X3_chance_29 : decode cX3_chance 29 = .ok (.iconst 0, 1) ∧ 29 + 1 = 30 := by decide +kernel
theorem e_X3_chance_30 : decode cX3_chance 30 = .ok (.istore 4, 2) ∧ 30 + 2 = 32 := by decide +kernel
theorem e_X3_chance_32 : decode cX3_chance 32 = .ok (.iconst 0, 1) ∧ 32 + 1 = 33 := by decide +kernel
theorem e_X3_chance_33 : decode cX3_chance 33 = .ok (.istore 5, 2) ∧ 33 + 2 = 35 := by decide +kernel
theorem e_X3_chance_35 : decode cX3_chance 35 = .ok (.iload 5, 2) ∧ 35 + 2 = 37 := by decide +kernel
theorem e_X3_chance_37 : decode cX3_chance 37 = .ok (.iconst 1, 1) ∧ 37 + 1 = 38 := by decide +kernel
theorem e_X3_chance_38 : decode cX3_chance 38 = .ok (.aload_n 0, 1) ∧ 38 + 1 = 39 := by decide +kernel
theorem e_X3_chance_39 : decode cX3_chance 39 = .ok (.getfield 51, 3) ∧ 39 + 3 = 42 := by decide +kernel
theorem e_X3_chance_42 : decode cX3_chance 42 = .ok (.ishl, 1) ∧ 42 + 1 = 43 := by decide +kernel
theorem e_X3_chance_43 : decode cX3_chance 43 = .ok (.if_icmp .ge 92, 3) ∧ 43 + 3 = 46 ∧ ((43 : Nat) : Int) + (92) = ((135 : Nat) : Int) := by decide +kernel
theorem e_X3_chance_46 : decode cX3_chance 46 = .ok (.iconst 1, 1) ∧ 46 + 1 = 47 := by decide +kernel
theorem e_X3_chance_47 : decode cX3_chance 47 = .ok (.istore 6, 2) ∧ 47 + 2 = 49 := by decide +kernel
theorem e_X3_chance_49 : decode cX3_chance 49 = .ok (.iconst 0, 1) ∧ 49 + 1 = 50 := by decide +kernel
theorem e_X3_chance_50 : decode cX3_chance 50 = .ok (.istore 7, 2) ∧ 50 + 2 = 52 := by decide +kernel
theorem e_X3_chance_52 : decode cX3_chance 52 = .ok (.iload 7, 2) ∧ 52 + 2 = 54 := by decide +kernel
theorem e_X3_chance_54 : decode cX3_chance 54 = .ok (.aload_n 0, 1) ∧ 54 + 1 = 55 := by decide +kernel
theorem e_X3_chance_55 : decode cX3_chance 55 = .ok (.getfield 51, 3) ∧ 55 + 3 = 58 := by decide +kernel
theorem e_X3_chance_58 : decode cX3_chance 58 = .ok (.if_icmp .ge 32, 3) ∧ 58 + 3 = 61 ∧ ((58 : Nat) : Int) + (32) = ((90 : Nat) : Int) := by decide +kernel
theorem e_X3_chance_61 : decode cX3_chance 61 = .ok (.iload 6, 2) ∧ 61 + 2 = 63 := by decide +kernel
theorem e_X3_chance_63 : decode cX3_chance 63 = .ok (.iload 5, 2) ∧ 63 + 2 = 65 := by decide +kernel
theorem e_X3_chance_65 : decode cX3_chance 65 = .ok (.iload 7, 2) ∧ 65 + 2 = 67 := by decide +kernel
theorem e_X3_chance_67 : decode cX3_chance 67 = .ok (.invokestatic 70, 3) ∧ 67 + 3 = 70 := by decide +kernel
theorem e_X3_chance_70 : decode cX3_chance 70 = .ok (.ifCond .eq 7, 3) ∧ 70 + 3 = 73 ∧ ((70 : Nat) : Int) + (7) = ((77 : Nat) : Int) := by decide +kernel
theorem e_X3_chance_73 : decode cX3_chance 73 = .ok (.iload_n 2, 1) ∧ 73 + 1 = 74 := by decide +kernel
theorem e_X3_chance_74 : decode cX3_chance 74 = .ok (.goto 7, 3) ∧ 74 + 3 = 77 ∧ ((74 : Nat) : Int) + (7) = ((81 : Nat) : Int) := by decide +kernel
theorem e_X3_chance_77 : decode cX3_chance 77 = .ok (.bipush 10, 2) ∧ 77 + 2 = 79 := by decide +kernel
theorem e_X3_chance_79 : decode cX3_chance 79 = .ok (.iload_n 2, 1) ∧ 79 + 1 = 80 := by decide +kernel
theorem e_X3_chance_80 : decode cX3_chance 80 = .ok (.isub, 1) ∧ 80 + 1 = 81 := by decide +kernel
theorem e_X3_chance_81 : decode cX3_chance 81 = .ok (.imul, 1) ∧ 81 + 1 = 82 := by decide +kernel
theorem e_X3_chance_82 : decode cX3_chance 82 = .ok (.istore 6, 2) ∧ 82 + 2 = 84 := by decide +kernel
theorem e_X3_chance_84 : decode cX3_chance 84 = .ok (.iinc 7 1, 3) ∧ 84 + 3 = 87 := by decide +kernel
theorem e_X3_chance_87 : decode cX3_chance 87 = .ok (.goto (-35), 3) ∧ 87 + 3 = 90 ∧ ((87 : Nat) : Int) + (-35) = ((52 : Nat) : Int) := by decide +kernel
theorem e_X3_chance_90 : decode cX3_chance 90 = .ok (.aload_n 0, 1) ∧ 90 + 1 = 91 := by decide +kernel
theorem e_X3_chance_91 : decode cX3_chance 91 = .ok (.invokevirtual 151, 3) ∧ 91 + 3 = 94 := by decide +kernel
theorem e_X3_chance_94 : decode cX3_chance 94 = .ok (.aload_n 0, 1) ∧ 94 + 1 = 95 := by decide +kernel
theorem e_X3_chance_95 : decode cX3_chance 95 = .ok (.aload_n 0, 1) ∧ 95 + 1 = 96 := by decide +kernel
theorem e_X3_chance_96 : decode cX3_chance 96 = .ok (.getfield 45, 3) ∧ 96 + 3 = 99 := by decide +kernel
theorem e_X3_chance_99 : decode cX3_chance 99 = .ok (.iload 5, 2) ∧ 99 + 2 = 101 := by decide +kernel
theorem e_X3_chance_101 : decode cX3_chance 101 = .ok (.invokevirtual 168, 3) ∧ 101 + 3 = 104 := by decide +kernel
theorem e_X3_chance_104 : decode cX3_chance 104 = .ok (.iload 4, 2) ∧ 104 + 2 = 106 := by decide +kernel
theorem e_X3_chance_106 : decode cX3_chance 106 = .ok (.aload_n 0, 1) ∧ 106 + 1 = 107 := by decide +kernel
theorem e_X3_chance_107 : decode cX3_chance 107 = .ok (.getfield 45, 3) ∧ 107 + 3 = 110 := by decide +kernel
theorem e_X3_chance_110 : decode cX3_chance 110 = .ok (.bipush 48, 2) ∧ 110 + 2 = 112 := by decide +kernel
theorem e_X3_chance_112 : decode cX3_chance 112 = .ok (.iaload, 1) ∧ 112 + 1 = 113 := by decide +kernel
theorem e_X3_chance_113 : decode cX3_chance 113 = .ok (.iload_n 1, 1) ∧ 113 + 1 = 114 := by decide +kernel
theorem e_X3_chance_114 : decode cX3_chance 114 = .ok (.invokestatic 70, 3) ∧ 114 + 3 = 117 := by decide +kernel
theorem e_X3_chance_117 : decode cX3_chance 117 = .ok (.ifCond .eq 8, 3) ∧ 117 + 3 = 120 ∧ ((117 : Nat) : Int) + (8) = ((125 : Nat) : Int) := by decide +kernel
theorem e_X3_chance_120 : decode cX3_chance 120 = .ok (.iload 6, 2) ∧ 120 + 2 = 122 := by decide +kernel
theorem e_X3_chance_122 : decode cX3_chance 122 = .ok (.goto 4, 3) ∧ 122 + 3 = 125 ∧ ((122 : Nat) : Int) + (4) = ((126 : Nat) : Int) := by decide +kernel
theorem e_X3_chance_125 : decode cX3_chance 125 = .ok (.iconst 0, 1) ∧ 125 + 1 = 126 := by decide +kernel
theorem e_X3_chance_126 : decode cX3_chance 126 = .ok (.iadd, 1) ∧ 126 + 1 = 127 := by decide +kernel
theorem e_X3_chance_127 : decode cX3_chance 127 = .ok (.istore 4, 2) ∧ 127 + 2 = 129 := by decide +kernel
theorem e_X3_chance_129 : decode cX3_chance 129 = .ok (.iinc 5 1, 3) ∧ 129 + 3 = 132 := by decide +kernel
theorem e_X3_chance_132 : decode cX3_chance 132 = .ok (.goto (-97), 3) ∧ 132 + 3 = 135 ∧ ((132 : Nat) : Int) + (-97) = ((35 : Nat) : Int) := by decide +kernel
theorem e_X3_chance_135 : decode cX3_chance 135 = .ok (.aload_n 0, 1) ∧ 135 + 1 = 136 := by decide +kernel
theorem e_X3_chance_136 : decode cX3_chance 136 = .ok (.getfield 51, 3) ∧ 136 + 3 = 139 := by decide +kernel
theorem e_X3_chance_139 : decode cX3_chance 139 = .ok (.invokestatic 154, 3) ∧ 139 + 3 = 142 := by decide +kernel
theorem e_X3_chance_142 : decode cX3_chance 142 = .ok (.istore 5, 2) ∧ 142 + 2 = 144 := by decide +kernel
theorem e_X3_chance_144 : decode cX3_chance 144 = .ok (.iload 4, 2) ∧ 144 + 2 = 146 := by decide +kernel
theorem e_X3_chance_146 : decode cX3_chance 146 = .ok (.iload 5, 2) ∧ 146 + 2 = 148 := by decide +kernel
theorem e_X3_chance_148 : decode cX3_chance 148 = .ok (.invokestatic 176, 3) ∧ 148 + 3 = 151 := by decide +kernel
theorem e_X3_chance_151 : decode cX3_chance 151 = .ok (.istore 6, 2) ∧ 151 + 2 = 153 := by decide +kernel
theorem e_X3_chance_153 : decode cX3_chance 153 = .ok (.iload_n 3, 1) ∧ 153 + 1 = 154 := by decide +kernel
theorem e_X3_chance_154 : decode cX3_chance 154 = .ok (.ifCond .eq 11, 3) ∧ 154 + 3 = 157 ∧ ((154 : Nat) : Int) + (11) = ((165 : Nat) : Int) := by decide +kernel
theorem e_X3_chance_157 : decode cX3_chance 157 = .ok (.iload 4, 2) ∧ 157 + 2 = 159 := by decide +kernel
theorem e_X3_chance_159 : decode cX3_chance 159 = .ok (.iload 6, 2) ∧ 159 + 2 = 161 := by decide +kernel
theorem e_X3_chance_161 : decode cX3_chance 161 = .ok (.idiv, 1) ∧ 161 + 1 = 162 := by decide +kernel
theorem e_X3_chance_162 : decode cX3_chance 162 = .ok (.goto 8, 3) ∧ 162 + 3 = 165 ∧ ((162 : Nat) : Int) + (8) = ((170 : Nat) : Int) := by decide +kernel
theorem e_X3_chance_165 : decode cX3_chance 165 = .ok (.iload 5, 2) ∧ 165 + 2 = 167 := by decide +kernel
theorem e_X3_chance_167 : decode cX3_chance 167 = .ok (.iload 6, 2) ∧ 167 + 2 = 169 := by decide +kernel
theorem e_X3_chance_169 : decode cX3_chance 169 = .ok (.idiv, 1) ∧ 169 + 1 = 170 := by decide +kernel
theorem e_X3_chance_170 : decode cX3_chance 170 = .ok (.ireturn, 1) := by decide +kernel
theorem e_X3_seed_0 : decode cX3_seed 0 = .ok (.aload_n 0, 1) ∧ 0 + 1 = 1 := by decide +kernel
theorem e_X3_seed_1 : decode cX3_seed 1 = .ok (.iconst 0, 1) ∧ 1 + 1 = 2 := by decide +kernel
theorem e_X3_seed_2 : decode cX3_seed 2 = .ok (.putfield 48, 3) ∧ 2 + 3 = 5 := by decide +kernel
theorem e_X3_seed_5 : decode cX3_seed 5 = .ok (.aload_n 0, 1) ∧ 5 + 1 = 6 := by decide +kernel
theorem e_X3_seed_6 : decode cX3_seed 6 = .ok (.getfield 179, 3) ∧ 6 + 3 = 9 := by decide +kernel
theorem e_X3_seed_9 : decode cX3_seed 9 = .ok (.lstore_n 3, 1) ∧ 9 + 1 = 10 := by decide +kernel
theorem e_X3_seed_10 : decode cX3_seed 10 = .ok (.aload_n 0, 1) ∧ 10 + 1 = 11 := by decide +kernel
theorem e_X3_seed_11 : decode cX3_seed 11 = .ok (.lload_n 1, 1) ∧ 11 + 1 = 12 := by decide +kernel
theorem e_X3_seed_12 : decode cX3_seed 12 = .ok (.putfield 179, 3) ∧ 12 + 3 = 15 := by decide +kernel
theorem e_X3_seed_15 : decode cX3_seed 15 = .ok (.lload_n 3, 1) ∧ 15 + 1 = 16 := by decide +kernel
theorem e_X3_seed_16 : decode cX3_seed 16 = .ok (.lreturn, 1) := by decide +kernel
theorem e_X3_month_0 : decode cX3_month 0 = .ok (.aload_n 0, 1) ∧ 0 + 1 = 1 := by decide +kernel
theorem e_X3_month_1 : decode cX3_month 1 = .ok (.iconst 0, 1) ∧ 1 + 1 = 2 := by decide +kernel
theorem e_X3_month_2 : decode cX3_month 2 = .ok (.putfield 48, 3) ∧ 2 + 3 = 5 := by decide +kernel
theorem e_X3_month_5 : decode cX3_month 5 = .ok (.iload_n 1, 1) ∧ 5 + 1 = 6 := by decide +kernel
theorem e_X3_month_6 : decode cX3_month 6 = .ok (.i2l, 1) ∧ 6 + 1 = 7 := by decide +kernel
theorem e_X3_month_7 : decode cX3_month 7 = .ok (.lconst 1, 1) ∧ 7 + 1 = 8 := by decide +kernel
theorem e_X3_month_8 : decode cX3_month 8 = .ok (.ldc2_w 183, 3) ∧ 8 + 3 = 11 := by decide +kernel
theorem e_X3_month_11 : decode cX3_month 11 = .ok (.invokestatic 54, 3) ∧ 11 + 3 = 14 := by decide +kernel
theorem e_X3_month_14 : decode cX3_month 14 = .ok (.ifCond .eq 15, 3) ∧ 14 + 3 = 17 ∧ ((14 : Nat) : Int) + (15) = ((29 : Nat) : Int) := by decide +kernel
theorem e_X3_month_17 : decode cX3_month 17 = .ok (.iload_n 2, 1) ∧ 17 + 1 = 18 := by decide +kernel
theorem e_X3_month_18 : decode cX3_month 18 = .ok (.i2l, 1) ∧ 18 + 1 = 19 := by decide +kernel
theorem e_X3_month_19 : decode cX3_month 19 = .ok (.lconst 0, 1) ∧ 19 + 1 = 20 := by decide +kernel
theorem e_X3_month_20 : decode cX3_month 20 = .ok (.ldc2_w 174, 3) ∧ 20 + 3 = 23 := by decide +kernel
theorem e_X3_month_23 : decode cX3_month 23 = .ok (.invokestatic 54, 3) ∧ 23 + 3 = 26 := by decide +kernel
theorem e_X3_month_26 : decode cX3_month 26 = .ok (.ifCond .ne 6, 3) ∧ 26 + 3 = 29 ∧ ((26 : Nat) : Int) + (6) = ((32 : Nat) : Int) := by decide +kernel
theorem e_X3_month_29 : decode cX3_month 29 = .ok (.bipush (-2), 2) ∧ 29 + 2 = 31 := by decide +kernel
theorem e_X3_month_31 : decode cX3_month 31 = .ok (.ireturn, 1) := by decide +kernel
theorem e_X3_month_32 : decode cX3_month 32 = .ok (.aload_n 0, 1) ∧ 32 + 1 = 33 := by decide +kernel
theorem e_X3_month_33 : decode cX3_month 33 = .ok (.invokevirtual 151, 3) ∧ 33 + 3 = 36 := by decide +kernel
theorem e_X3_month_36 : decode cX3_month 36 = .ok (.iconst 0, 1) ∧ 36 + 1 = 37 := by decide +kernel
theorem e_X3_month_37 : decode cX3_month 37 = .ok (.istore_n 3, 1) ∧ 37 + 1 = 38 := by decide +kernel
theorem e_X3_month_38 : decode cX3_month 38 = .ok (.iload_n 3, 1) ∧ 38 + 1 = 39 := by decide +kernel
theorem e_X3_month_39 : decode cX3_month 39 = .ok (.iload_n 1, 1) ∧ 39 + 1 = 40 := by decide +kernel
theorem e_X3_month_40 : decode cX3_month 40 = .ok (.if_icmp .ge 95, 3) ∧ 40 + 3 = 43 ∧ ((40 : Nat) : Int) + (95) = ((135 : Nat) : Int) := by decide +kernel
theorem e_X3_month_43 : decode cX3_month 43 = .ok (.iconst 0, 1) ∧ 43 + 1 = 44 := by decide +kernel
theorem e_X3_month_44 : decode cX3_month 44 = .ok (.istore 4, 2) ∧ 44 + 2 = 46 := by decide +kernel
theorem e_X3_month_46 : decode cX3_month 46 = .ok (.iload 4, 2) ∧ 46 + 2 = 48 := by decide +kernel
theorem e_X3_month_48 : decode cX3_month 48 = .ok (.aload_n 0, 1) ∧ 48 + 1 = 49 := by decide +kernel
theorem e_X3_month_49 : decode cX3_month 49 = .ok (.getfield 51, 3) ∧ 49 + 3 = 52 := by decide +kernel
theorem e_X3_month_52 : decode cX3_month 52 = .ok (.if_icmp .ge 68, 3) ∧ 52 + 3 = 55 ∧ ((52 : Nat) : Int) + (68) = ((120 : Nat) : Int) := by decide +kernel
theorem e_X3_month_55 : decode cX3_month 55 = .ok (.aload_n 0, 1) ∧ 55 + 1 = 56 := by decide +kernel
theorem e_X3_month_56 : decode cX3_month 56 = .ok (.getfield 45, 3) ∧ 56 + 3 = 59 := by decide +kernel
theorem e_X3_month_59 : decode cX3_month 59 = .ok (.bipush 53, 2) ∧ 59 + 2 = 61 := by decide +kernel
theorem e_X3_month_61 : decode cX3_month 61 = .ok (.iaload, 1) ∧ 61 + 1 = 62 := by decide +kernel
theorem e_X3_month_62 : decode cX3_month 62 = .ok (.iload 4, 2) ∧ 62 + 2 = 64 := by decide +kernel
theorem e_X3_month_64 : decode cX3_month 64 = .ok (.invokestatic 70, 3) ∧ 64 + 3 = 67 := by decide +kernel
theorem e_X3_month_67 : decode cX3_month 67 = .ok (.ifCond .ne 47, 3) ∧ 67 + 3 = 70 ∧ ((67 : Nat) : Int) + (47) = ((114 : Nat) : Int) := by decide +kernel
theorem e_X3_month_70 : decode cX3_month 70 = .ok (.aload_n 0, 1) ∧ 70 + 1 = 71 := by decide +kernel
theorem e_X3_month_71 : decode cX3_month 71 = .ok (.aload_n 0, 1) ∧ 71 + 1 = 72 := by decide +kernel
theorem e_X3_month_72 : decode cX3_month 72 = .ok (.getfield 179, 3) ∧ 72 + 3 = 75 := by decide +kernel
theorem e_X3_month_75 : decode cX3_month 75 = .ok (.ldc2_w 185, 3) ∧ 75 + 3 = 78 := by decide +kernel
theorem e_X3_month_78 : decode cX3_month 78 = .ok (.lmul, 1) ∧ 78 + 1 = 79 := by decide +kernel
theorem e_X3_month_79 : decode cX3_month 79 = .ok (.ldc2_w 187, 3) ∧ 79 + 3 = 82 := by decide +kernel
theorem e_X3_month_82 : decode cX3_month 82 = .ok (.ladd, 1) ∧ 82 + 1 = 83 := by decide +kernel
theorem e_X3_month_83 : decode cX3_month 83 = .ok (.putfield 179, 3) ∧ 83 + 3 = 86 := by decide +kernel
theorem e_X3_month_86 : decode cX3_month 86 = .ok (.aload_n 0, 1) ∧ 86 + 1 = 87 := by decide +kernel
theorem e_X3_month_87 : decode cX3_month 87 = .ok (.getfield 179, 3) ∧ 87 + 3 = 90 := by decide +kernel
theorem e_X3_month_90 : decode cX3_month 90 = .ok (.bipush 33, 2) ∧ 90 + 2 = 92 := by decide +kernel
theorem e_X3_month_92 : decode cX3_month 92 = .ok (.lushr, 1) ∧ 92 + 1 = 93 := by decide +kernel
theorem e_X3_month_93 : decode cX3_month 93 = .ok (.ldc2_w 174, 3) ∧ 93 + 3 = 96 := by decide +kernel
theorem e_X3_month_96 : decode cX3_month 96 = .ok (.lrem, 1) ∧ 96 + 1 = 97 := by decide +kernel
theorem e_X3_month_97 : decode cX3_month 97 = .ok (.iload_n 2, 1) ∧ 97 + 1 = 98 := by decide +kernel
theorem e_X3_month_98 : decode cX3_month 98 = .ok (.i2l, 1) ∧ 98 + 1 = 99 := by decide +kernel
theorem e_X3_month_99 : decode cX3_month 99 = .ok (.lcmp, 1) ∧ 99 + 1 = 100 := by decide +kernel
theorem e_X3_month_100 : decode cX3_month 100 = .ok (.ifCond .ge 14, 3) ∧ 100 + 3 = 103 ∧ ((100 : Nat) : Int) + (14) = ((114 : Nat) : Int) := by decide +kernel
theorem e_X3_month_103 : decode cX3_month 103 = .ok (.aload_n 0, 1) ∧ 103 + 1 = 104 := by decide +kernel
theorem e_X3_month_104 : decode cX3_month 104 = .ok (.aload_n 0, 1) ∧ 104 + 1 = 105 := by decide +kernel
theorem e_X3_month_105 : decode cX3_month 105 = .ok (.getfield 45, 3) ∧ 105 + 3 = 108 := by decide +kernel
theorem e_X3_month_108 : decode cX3_month 108 = .ok (.iload 4, 2) ∧ 108 + 2 = 110 := by decide +kernel
theorem e_X3_month_110 : decode cX3_month 110 = .ok (.invokevirtual 145, 3) ∧ 110 + 3 = 113 := by decide +kernel
theorem e_X3_month_113 : decode cX3_month 113 = .ok (.pop, 1) ∧ 113 + 1 = 114 := by decide +kernel
theorem e_X3_month_114 : decode cX3_month 114 = .ok (.iinc 4 1, 3) ∧ 114 + 3 = 117 := by decide +kernel
theorem e_X3_month_117 : decode cX3_month 117 = .ok (.goto (-71), 3) ∧ 117 + 3 = 120 ∧ ((117 : Nat) : Int) + (-71) = ((46 : Nat) : Int) := by decide +kernel
theorem e_X3_month_120 : decode cX3_month 120 = .ok (.aload_n 0, 1) ∧ 120 + 1 = 121 := by decide +kernel
theorem e_X3_month_121 : decode cX3_month 121 = .ok (.aload_n 0, 1) ∧ 121 + 1 = 122 := by decide +kernel
theorem e_X3_month_122 : decode cX3_month 122 = .ok (.getfield 45, 3) ∧ 122 + 3 = 125 := by decide +kernel
theorem e_X3_month_125 : decode cX3_month 125 = .ok (.invokevirtual 148, 3) ∧ 125 + 3 = 128 := by decide +kernel
theorem e_X3_month_128 : decode cX3_month 128 = .ok (.pop, 1) ∧ 128 + 1 = 129 := by decide +kernel
theorem e_X3_month_129 : decode cX3_month 129 = .ok (.iinc 3 1, 3) ∧ 129 + 3 = 132 := by decide +kernel
theorem e_X3_month_132 : decode cX3_month 132 = .ok (.goto (-94), 3) ∧ 132 + 3 = 135 ∧ ((132 : Nat) : Int) + (-94) = ((38 : Nat) : Int) := by decide +kernel
theorem e_X3_month_135 : decode cX3_month 135 = .ok (.aload_n 0, 1) ∧ 135 + 1 = 136 := by decide +kernel
theorem e_X3_month_136 : decode cX3_month 136 = .ok (.getfield 45, 3) ∧ 136 + 3 = 139 := by decide +kernel
theorem e_X3_month_139 : decode cX3_month 139 = .ok (.bipush 54, 2) ∧ 139 + 2 = 141 := by decide +kernel
theorem e_X3_month_141 : decode cX3_month 141 = .ok (.iaload, 1) ∧ 141 + 1 = 142 := by decide +kernel
theorem e_X3_month_142 : decode cX3_month 142 = .ok (.ireturn, 1) := by decide +kernel
theorem e_X3_keep_0 : decode cX3_keep 0 = .ok (.aload_n 0, 1) ∧ 0 + 1 = 1 := by decide +kernel
theorem e_X3_keep_1 : decode cX3_keep 1 = .ok (.iconst 0, 1) ∧ 1 + 1 = 2 := by decide +kernel
theorem e_X3_keep_2 : decode cX3_keep 2 = .ok (.putfield 48, 3) ∧ 2 + 3 = 5 := by decide +kernel
theorem e_X3_keep_5 : decode cX3_keep 5 = .ok (.iload_n 1, 1) ∧ 5 + 1 = 6 := by decide +kernel
theorem e_X3_keep_6 : decode cX3_keep 6 = .ok (.i2l, 1) ∧ 6 + 1 = 7 := by decide +kernel
theorem e_X3_keep_7 : decode cX3_keep 7 = .ok (.lconst 0, 1) ∧ 7 + 1 = 8 := by decide +kernel
theorem e_X3_keep_8 : decode cX3_keep 8 = .ok (.lconst 1, 1) ∧ 8 + 1 = 9 := by decide +kernel
theorem e_X3_keep_9 : decode cX3_keep 9 = .ok (.invokestatic 54, 3) ∧ 9 + 3 = 12 := by decide +kernel
theorem e_X3_keep_12 : decode cX3_keep 12 = .ok (.ifCond .ne 5, 3) ∧ 12 + 3 = 15 ∧ ((12 : Nat) : Int) + (5) = ((17 : Nat) : Int) := by decide +kernel
theorem e_X3_keep_15 : decode cX3_keep 15 = .ok (.iconst (-1), 1) ∧ 15 + 1 = 16 := by decide +kernel
theorem e_X3_keep_16 : decode cX3_keep 16 = .ok (.ireturn, 1) := by decide +kernel
theorem e_X3_keep_17 : decode cX3_keep 17 = .ok (.aload_n 0, 1) ∧ 17 + 1 = 18 := by decide +kernel
theorem e_X3_keep_18 : decode cX3_keep 18 = .ok (.getfield 35, 3) ∧ 18 + 3 = 21 := by decide +kernel
theorem e_X3_keep_21 : decode cX3_keep 21 = .ok (.iload_n 1, 1) ∧ 21 + 1 = 22 := by decide +kernel
theorem e_X3_keep_22 : decode cX3_keep 22 = .ok (.iconst 1, 1) ∧ 22 + 1 = 23 := by decide +kernel
theorem e_X3_keep_23 : decode cX3_keep 23 = .ok (.bastore, 1) ∧ 23 + 1 = 24 := by decide +kernel
theorem e_X3_keep_24 : decode cX3_keep 24 = .ok (.iconst 0, 1) ∧ 24 + 1 = 25 := by decide +kernel
theorem e_X3_keep_25 : decode cX3_keep 25 = .ok (.istore_n 2, 1) ∧ 25 + 1 = 26 := by decide +kernel
theorem e_X3_keep_26 : decode cX3_keep 26 = .ok (.iload_n 2, 1) ∧ 26 + 1 = 27 := by decide +kernel
theorem e_X3_keep_27 : decode cX3_keep 27 = .ok (.bipush 58, 2) ∧ 27 + 2 = 29 := by decide +kernel
theorem e_X3_keep_29 : decode cX3_keep 29 = .ok (.if_icmp .ge 26, 3) ∧ 29 + 3 = 32 ∧ ((29 : Nat) : Int) + (26) = ((55 : Nat) : Int) := by decide +kernel
theorem e_X3_keep_32 : decode cX3_keep 32 = .ok (.aload_n 0, 1) ∧ 32 + 1 = 33 := by decide +kernel
theorem e_X3_keep_33 : decode cX3_keep 33 = .ok (.getfield 32, 3) ∧ 33 + 3 = 36 := by decide +kernel
theorem e_X3_keep_36 : decode cX3_keep 36 = .ok (.bipush 58, 2) ∧ 36 + 2 = 38 := by decide +kernel
theorem e_X3_keep_38 : decode cX3_keep 38 = .ok (.iload_n 1, 1) ∧ 38 + 1 = 39 := by decide +kernel
theorem e_X3_keep_39 : decode cX3_keep 39 = .ok (.imul, 1) ∧ 39 + 1 = 40 := by decide +kernel
theorem e_X3_keep_40 : decode cX3_keep 40 = .ok (.iload_n 2, 1) ∧ 40 + 1 = 41 := by decide +kernel
theorem e_X3_keep_41 : decode cX3_keep 41 = .ok (.iadd, 1) ∧ 41 + 1 = 42 := by decide +kernel
theorem e_X3_keep_42 : decode cX3_keep 42 = .ok (.aload_n 0, 1) ∧ 42 + 1 = 43 := by decide +kernel
theorem e_X3_keep_43 : decode cX3_keep 43 = .ok (.getfield 20, 3) ∧ 43 + 3 = 46 := by decide +kernel
theorem e_X3_keep_46 : decode cX3_keep 46 = .ok (.iload_n 2, 1) ∧ 46 + 1 = 47 := by decide +kernel
theorem e_X3_keep_47 : decode cX3_keep 47 = .ok (.iaload, 1) ∧ 47 + 1 = 48 := by decide +kernel
theorem e_X3_keep_48 : decode cX3_keep 48 = .ok (.iastore, 1) ∧ 48 + 1 = 49 := by decide +kernel
theorem e_X3_keep_49 : decode cX3_keep 49 = .ok (.iinc 2 1, 3) ∧ 49 + 3 = 52 := by decide +kernel
theorem e_X3_keep_52 : decode cX3_keep 52 = .ok (.goto (-26), 3) ∧ 52 + 3 = 55 ∧ ((52 : Nat) : Int) + (-26) = ((26 : Nat) : Int) := by decide +kernel
theorem e_X3_keep_55 : decode cX3_keep 55 = .ok (.aload_n 0, 1) ∧ 55 + 1 = 56 := by decide +kernel
theorem e_X3_keep_56 : decode cX3_keep 56 = .ok (.getfield 20, 3) ∧ 56 + 3 = 59 := by decide +kernel
theorem e_X3_keep_59 : decode cX3_keep 59 = .ok (.bipush 55, 2) ∧ 59 + 2 = 61 := by decide +kernel
theorem e_X3_keep_61 : decode cX3_keep 61 = .ok (.iaload, 1) ∧ 61 + 1 = 62 := by decide +kernel
theorem e_X3_keep_62 : decode cX3_keep 62 = .ok (.ireturn, 1) := by decide +kernel
theorem e_X3_again_0 : decode cX3_again 0 = .ok (.aload_n 0, 1) ∧ 0 + 1 = 1 := by decide +kernel
theorem e_X3_again_1 : decode cX3_again 1 = .ok (.iconst 0, 1) ∧ 1 + 1 = 2 := by decide +kernel
theorem e_X3_again_2 : decode cX3_again 2 = .ok (.putfield 48, 3) ∧ 2 + 3 = 5 := by decide +kernel
theorem e_X3_again_5 : decode cX3_again 5 = .ok (.iload_n 1, 1) ∧ 5 + 1 = 6 := by decide +kernel
theorem e_X3_again_6 : decode cX3_again 6 = .ok (.i2l, 1) ∧ 6 + 1 = 7 := by decide +kernel
theorem e_X3_again_7 : decode cX3_again 7 = .ok (.lconst 0, 1) ∧ 7 + 1 = 8 := by decide +kernel
theorem e_X3_again_8 : decode cX3_again 8 = .ok (.lconst 1, 1) ∧ 8 + 1 = 9 := by decide +kernel
theorem e_X3_again_9 : decode cX3_again 9 = .ok (.invokestatic 54, 3) ∧ 9 + 3 = 12 := by decide +kernel
theorem e_X3_again_12 : decode cX3_again 12 = .ok (.ifCond .ne 5, 3) ∧ 12 + 3 = 15 ∧ ((12 : Nat) : Int) + (5) = ((17 : Nat) : Int) := by decide +kernel
theorem e_X3_again_15 : decode cX3_again 15 = .ok (.iconst (-1), 1) ∧ 15 + 1 = 16 := by decide +kernel
theorem e_X3_again_16 : decode cX3_again 16 = .ok (.ireturn, 1) := by decide +kernel
theorem e_X3_again_17 : decode cX3_again 17 = .ok (.aload_n 0, 1) ∧ 17 + 1 = 18 := by decide +kernel
theorem e_X3_again_18 : decode cX3_again 18 = .ok (.getfield 35, 3) ∧ 18 + 3 = 21 := by decide +kernel
theorem e_X3_again_21 : decode cX3_again 21 = .ok (.iload_n 1, 1) ∧ 21 + 1 = 22 := by decide +kernel
theorem e_X3_again_22 : decode cX3_again 22 = .ok (.baload, 1) ∧ 22 + 1 = 23 := by decide +kernel
theorem e_X3_again_23 : decode cX3_again 23 = .ok (.ifCond .ne 6, 3) ∧ 23 + 3 = 26 ∧ ((23 : Nat) : Int) + (6) = ((29 : Nat) : Int) := by decide +kernel
theorem e_X3_again_26 : decode cX3_again 26 = .ok (.bipush (-3), 2) ∧ 26 + 2 = 28 := by decide +kernel
theorem e_X3_again_28 : decode cX3_again 28 = .ok (.ireturn, 1) := by decide +kernel
theorem e_X3_again_29 : decode cX3_again 29 = .ok (.iconst 0, 1) ∧ 29 + 1 = 30 := by decide +kernel
theorem e_X3_again_30 : decode cX3_again 30 = .ok (.istore_n 2, 1) ∧ 30 + 1 = 31 := by decide +kernel
theorem e_X3_again_31 : decode cX3_again 31 = .ok (.iload_n 2, 1) ∧ 31 + 1 = 32 := by decide +kernel
theorem e_X3_again_32 : decode cX3_again 32 = .ok (.bipush 58, 2) ∧ 32 + 2 = 34 := by decide +kernel
theorem e_X3_again_34 : decode cX3_again 34 = .ok (.if_icmp .ge 26, 3) ∧ 34 + 3 = 37 ∧ ((34 : Nat) : Int) + (26) = ((60 : Nat) : Int) := by decide +kernel
theorem e_X3_again_37 : decode cX3_again 37 = .ok (.aload_n 0, 1) ∧ 37 + 1 = 38 := by decide +kernel
theorem e_X3_again_38 : decode cX3_again 38 = .ok (.getfield 20, 3) ∧ 38 + 3 = 41 := by decide +kernel
theorem e_X3_again_41 : decode cX3_again 41 = .ok (.iload_n 2, 1) ∧ 41 + 1 = 42 := by decide +kernel
theorem e_X3_again_42 : decode cX3_again 42 = .ok (.aload_n 0, 1) ∧ 42 + 1 = 43 := by decide +kernel
theorem e_X3_again_43 : decode cX3_again 43 = .ok (.getfield 32, 3) ∧ 43 + 3 = 46 := by decide +kernel
theorem e_X3_again_46 : decode cX3_again 46 = .ok (.bipush 58, 2) ∧ 46 + 2 = 48 := by decide +kernel
theorem e_X3_again_48 : decode cX3_again 48 = .ok (.iload_n 1, 1) ∧ 48 + 1 = 49 := by decide +kernel
theorem e_X3_again_49 : decode cX3_again 49 = .ok (.imul, 1) ∧ 49 + 1 = 50 := by decide +kernel
theorem e_X3_again_50 : decode cX3_again 50 = .ok (.iload_n 2, 1) ∧ 50 + 1 = 51 := by decide +kernel
theorem e_X3_again_51 : decode cX3_again 51 = .ok (.iadd, 1) ∧ 51 + 1 = 52 := by decide +kernel
theorem e_X3_again_52 : decode cX3_again 52 = .ok (.iaload, 1) ∧ 52 + 1 = 53 := by decide +kernel
theorem e_X3_again_53 : decode cX3_again 53 = .ok (.iastore, 1) ∧ 53 + 1 = 54 := by decide +kernel
theorem e_X3_again_54 : decode cX3_again 54 = .ok (.iinc 2 1, 3) ∧ 54 + 3 = 57 := by decide +kernel
theorem e_X3_again_57 : decode cX3_again 57 = .ok (.goto (-26), 3) ∧ 57 + 3 = 60 ∧ ((57 : Nat) : Int) + (-26) = ((31 : Nat) : Int) := by decide +kernel
theorem e_X3_again_60 : decode cX3_again 60 = .ok (.aload_n 0, 1) ∧ 60 + 1 = 61 := by decide +kernel
theorem e_X3_again_61 : decode cX3_again 61 = .ok (.iconst 0, 1) ∧ 61 + 1 = 62 := by decide +kernel
theorem e_X3_again_62 : decode cX3_again 62 = .ok (.putfield 108, 3) ∧ 62 + 3 = 65 := by decide +kernel
theorem e_X3_again_65 : decode cX3_again 65 = .ok (.aload_n 0, 1) ∧ 65 + 1 = 66 := by decide +kernel
theorem e_X3_again_66 : decode cX3_again 66 = .ok (.getfield 20, 3) ∧ 66 + 3 = 69 := by decide +kernel
theorem e_X3_again_69 : decode cX3_again 69 = .ok (.bipush 55, 2) ∧ 69 + 2 = 71 := by decide +kernel
theorem e_X3_again_71 : decode cX3_again 71 = .ok (.iaload, 1) ∧ 71 + 1 = 72 := by decide +kernel
theorem e_X3_again_72 : decode cX3_again 72 = .ok (.ireturn, 1) := by decide +kernel
theorem e_J6_bitCount_0f7a4_0 : decode cJ6_bitCount_0f7a4 0 = .ok (.iload_n 0, 1) ∧ 0 + 1 = 1 := by decide +kernel
theorem e_J6_bitCount_0f7a4_1 : decode cJ6_bitCount_0f7a4 1 = .ok (.iload_n 0, 1) ∧ 1 + 1 = 2 := by decide +kernel
theorem e_J6_bitCount_0f7a4_2 : decode cJ6_bitCount_0f7a4 2 = .ok (.iconst 1, 1) ∧ 2 + 1 = 3 := by decide +kernel
theorem e_J6_bitCount_0f7a4_3 : decode cJ6_bitCount_0f7a4 3 = .ok (.iushr, 1) ∧ 3 + 1 = 4 := by decide +kernel
theorem e_J6_bitCount_0f7a4_4 : decode cJ6_bitCount_0f7a4 4 = .ok (.ldc_w 265, 3) ∧ 4 + 3 = 7 := by decide +kernel
theorem e_J6_bitCount_0f7a4_7 : decode cJ6_bitCount_0f7a4 7 = .ok (.iand, 1) ∧ 7 + 1 = 8 := by decide +kernel
theorem e_J6_bitCount_0f7a4_8 : decode cJ6_bitCount_0f7a4 8 = .ok (.isub, 1) ∧ 8 + 1 = 9 := by decide +kernel
theorem e_J6_bitCount_0f7a4_9 : decode cJ6_bitCount_0f7a4 9 = .ok (.istore_n 0, 1) ∧ 9 + 1 = 10 := by decide +kernel
theorem e_J6_bitCount_0f7a4_10 : decode cJ6_bitCount_0f7a4 10 = .ok (.iload_n 0, 1) ∧ 10 + 1 = 11 := by decide +kernel
theorem e_J6_bitCount_0f7a4_11 : decode cJ6_bitCount_0f7a4 11 = .ok (.ldc_w 266, 3) ∧ 11 + 3 = 14 := by decide +kernel
theorem e_J6_bitCount_0f7a4_14 : decode cJ6_bitCount_0f7a4 14 = .ok (.iand, 1) ∧ 14 + 1 = 15 := by decide +kernel
theorem e_J6_bitCount_0f7a4_15 : decode cJ6_bitCount_0f7a4 15 = .ok (.iload_n 0, 1) ∧ 15 + 1 = 16 := by decide +kernel
theorem e_J6_bitCount_0f7a4_16 : decode cJ6_bitCount_0f7a4 16 = .ok (.iconst 2, 1) ∧ 16 + 1 = 17 := by decide +kernel
theorem e_J6_bitCount_0f7a4_17 : decode cJ6_bitCount_0f7a4 17 = .ok (.iushr, 1) ∧ 17 + 1 = 18 := by decide +kernel
theorem e_J6_bitCount_0f7a4_18 : decode cJ6_bitCount_0f7a4 18 = .ok (.ldc_w 266, 3) ∧ 18 + 3 = 21 := by decide +kernel
theorem e_J6_bitCount_0f7a4_21 : decode cJ6_bitCount_0f7a4 21 = .ok (.iand, 1) ∧ 21 + 1 = 22 := by decide +kernel
theorem e_J6_bitCount_0f7a4_22 : decode cJ6_bitCount_0f7a4 22 = .ok (.iadd, 1) ∧ 22 + 1 = 23 := by decide +kernel
theorem e_J6_bitCount_0f7a4_23 : decode cJ6_bitCount_0f7a4 23 = .ok (.istore_n 0, 1) ∧ 23 + 1 = 24 := by decide +kernel
theorem e_J6_bitCount_0f7a4_24 : decode cJ6_bitCount_0f7a4 24 = .ok (.iload_n 0, 1) ∧ 24 + 1 = 25 := by decide +kernel
theorem e_J6_bitCount_0f7a4_25 : decode cJ6_bitCount_0f7a4 25 = .ok (.iload_n 0, 1) ∧ 25 + 1 = 26 := by decide +kernel
theorem e_J6_bitCount_0f7a4_26 : decode cJ6_bitCount_0f7a4 26 = .ok (.iconst 4, 1) ∧ 26 + 1 = 27 := by decide +kernel
theorem e_J6_bitCount_0f7a4_27 : decode cJ6_bitCount_0f7a4 27 = .ok (.iushr, 1) ∧ 27 + 1 = 28 := by decide +kernel
theorem e_J6_bitCount_0f7a4_28 : decode cJ6_bitCount_0f7a4 28 = .ok (.iadd, 1) ∧ 28 + 1 = 29 := by decide +kernel
theorem e_J6_bitCount_0f7a4_29 : decode cJ6_bitCount_0f7a4 29 = .ok (.ldc_w 267, 3) ∧ 29 + 3 = 32 := by decide +kernel
theorem e_J6_bitCount_0f7a4_32 : decode cJ6_bitCount_0f7a4 32 = .ok (.iand, 1) ∧ 32 + 1 = 33 := by decide +kernel
theorem e_J6_bitCount_0f7a4_33 : decode cJ6_bitCount_0f7a4 33 = .ok (.istore_n 0, 1) ∧ 33 + 1 = 34 := by decide +kernel
theorem e_J6_bitCount_0f7a4_34 : decode cJ6_bitCount_0f7a4 34 = .ok (.iload_n 0, 1) ∧ 34 + 1 = 35 := by decide +kernel
theorem e_J6_bitCount_0f7a4_35 : decode cJ6_bitCount_0f7a4 35 = .ok (.iload_n 0, 1) ∧ 35 + 1 = 36 := by decide +kernel
theorem e_J6_bitCount_0f7a4_36 : decode cJ6_bitCount_0f7a4 36 = .ok (.bipush 8, 2) ∧ 36 + 2 = 38 := by decide +kernel
theorem e_J6_bitCount_0f7a4_38 : decode cJ6_bitCount_0f7a4 38 = .ok (.iushr, 1) ∧ 38 + 1 = 39 := by decide +kernel
theorem e_J6_bitCount_0f7a4_39 : decode cJ6_bitCount_0f7a4 39 = .ok (.iadd, 1) ∧ 39 + 1 = 40 := by decide +kernel
theorem e_J6_bitCount_0f7a4_40 : decode cJ6_bitCount_0f7a4 40 = .ok (.istore_n 0, 1) ∧ 40 + 1 = 41 := by decide +kernel
theorem e_J6_bitCount_0f7a4_41 : decode cJ6_bitCount_0f7a4 41 = .ok (.iload_n 0, 1) ∧ 41 + 1 = 42 := by decide +kernel
theorem e_J6_bitCount_0f7a4_42 : decode cJ6_bitCount_0f7a4 42 = .ok (.iload_n 0, 1) ∧ 42 + 1 = 43 := by decide +kernel
theorem e_J6_bitCount_0f7a4_43 : decode cJ6_bitCount_0f7a4 43 = .ok (.bipush 16, 2) ∧ 43 + 2 = 45 := by decide +kernel
theorem e_J6_bitCount_0f7a4_45 : decode cJ6_bitCount_0f7a4 45 = .ok (.iushr, 1) ∧ 45 + 1 = 46 := by decide +kernel
theorem e_J6_bitCount_0f7a4_46 : decode cJ6_bitCount_0f7a4 46 = .ok (.iadd, 1) ∧ 46 + 1 = 47 := by decide +kernel
theorem e_J6_bitCount_0f7a4_47 : decode cJ6_bitCount_0f7a4 47 = .ok (.istore_n 0, 1) ∧ 47 + 1 = 48 := by decide +kernel
theorem e_J6_bitCount_0f7a4_48 : decode cJ6_bitCount_0f7a4 48 = .ok (.iload_n 0, 1) ∧ 48 + 1 = 49 := by decide +kernel
theorem e_J6_bitCount_0f7a4_49 : decode cJ6_bitCount_0f7a4 49 = .ok (.bipush 63, 2) ∧ 49 + 2 = 51 := by decide +kernel
theorem e_J6_bitCount_0f7a4_51 : decode cJ6_bitCount_0f7a4 51 = .ok (.iand, 1) ∧ 51 + 1 = 52 := by decide +kernel
theorem e_J6_bitCount_0f7a4_52 : decode cJ6_bitCount_0f7a4 52 = .ok (.ireturn, 1) := by decide +kernel
theorem e_J9_max_7cf53_0 : decode cJ9_max_7cf53 0 = .ok (.iload_n 0, 1) ∧ 0 + 1 = 1 := by decide +kernel
theorem e_J9_max_7cf53_1 : decode cJ9_max_7cf53 1 = .ok (.iload_n 1, 1) ∧ 1 + 1 = 2 := by decide +kernel
theorem e_J9_max_7cf53_2 : decode cJ9_max_7cf53 2 = .ok (.if_icmp .lt 7, 3) ∧ 2 + 3 = 5 ∧ ((2 : Nat) : Int) + (7) = ((9 : Nat) : Int) := by decide +kernel
theorem e_J9_max_7cf53_5 : decode cJ9_max_7cf53 5 = .ok (.iload_n 0, 1) ∧ 5 + 1 = 6 := by decide +kernel
theorem e_J9_max_7cf53_6 : decode cJ9_max_7cf53 6 = .ok (.goto 4, 3) ∧ 6 + 3 = 9 ∧ ((6 : Nat) : Int) + (4) = ((10 : Nat) : Int) := by decide +kernel
theorem e_J9_max_7cf53_9 : decode cJ9_max_7cf53 9 = .ok (.iload_n 1, 1) ∧ 9 + 1 = 10 := by decide +kernel
theorem e_J9_max_7cf53_10 : decode cJ9_max_7cf53 10 = .ok (.ireturn, 1) := by decide +kernel
theorem e_J9_min_7cf53_0 : decode cJ9_min_7cf53 0 = .ok (.iload_n 0, 1) ∧ 0 + 1 = 1 := by decide +kernel
theorem e_J9_min_7cf53_1 : decode cJ9_min_7cf53 1 = .ok (.iload_n 1, 1) ∧ 1 + 1 = 2 := by decide +kernel
theorem e_J9_min_7cf53_2 : decode cJ9_min_7cf53 2 = .ok (.if_icmp .gt 7, 3) ∧ 2 + 3 = 5 ∧ ((2 : Nat) : Int) + (7) = ((9 : Nat) : Int) := by decide +kernel
theorem e_J9_min_7cf53_5 : decode cJ9_min_7cf53 5 = .ok (.iload_n 0, 1) ∧ 5 + 1 = 6 := by decide +kernel
theorem e_J9_min_7cf53_6 : decode cJ9_min_7cf53 6 = .ok (.goto 4, 3) ∧ 6 + 3 = 9 ∧ ((6 : Nat) : Int) + (4) = ((10 : Nat) : Int) := by decide +kernel
theorem e_J9_min_7cf53_9 : decode cJ9_min_7cf53 9 = .ok (.iload_n 1, 1) ∧ 9 + 1 = 10 := by decide +kernel
theorem e_J9_min_7cf53_10 : decode cJ9_min_7cf53 10 = .ok (.ireturn, 1) := by decide +kernel
theorem e_L_law_0 : decode cL_law 0 = .ok (.new 7, 3) ∧ 0 + 3 = 3 := by decide +kernel
theorem e_L_law_3 : decode cL_law 3 = .ok (.dup, 1) ∧ 3 + 1 = 4 := by decide +kernel
theorem e_L_law_4 : decode cL_law 4 = .ok (.invokespecial 9, 3) ∧ 4 + 3 = 7 := by decide +kernel
theorem e_L_law_7 : decode cL_law 7 = .ok (.astore_n 1, 1) ∧ 7 + 1 = 8 := by decide +kernel
theorem e_L_law_8 : decode cL_law 8 = .ok (.new 10, 3) ∧ 8 + 3 = 11 := by decide +kernel
theorem e_L_law_11 : decode cL_law 11 = .ok (.dup, 1) ∧ 11 + 1 = 12 := by decide +kernel
theorem e_L_law_12 : decode cL_law 12 = .ok (.invokespecial 12, 3) ∧ 12 + 3 = 15 := by decide +kernel
theorem e_L_law_15 : decode cL_law 15 = .ok (.astore_n 2, 1) ∧ 15 + 1 = 16 := by decide +kernel
theorem e_L_law_16 : decode cL_law 16 = .ok (.iconst 0, 1) ∧ 16 + 1 = 17 := by decide +kernel
theorem e_L_law_17 : decode cL_law 17 = .ok (.istore_n 3, 1) ∧ 17 + 1 = 18 := by decide +kernel
theorem e_L_law_18 : decode cL_law 18 = .ok (.iload_n 3, 1) ∧ 18 + 1 = 19 := by decide +kernel
theorem e_L_law_19 : decode cL_law 19 = .ok (.aload_n 0, 1) ∧ 19 + 1 = 20 := by decide +kernel
theorem e_L_law_20 : decode cL_law 20 = .ok (.arraylength, 1) ∧ 20 + 1 = 21 := by decide +kernel
theorem e_L_law_21 : decode cL_law 21 = .ok (.iconst 4, 1) ∧ 21 + 1 = 22 := by decide +kernel
theorem e_L_law_22 : decode cL_law 22 = .ok (.isub, 1) ∧ 22 + 1 = 23 := by decide +kernel
theorem e_L_law_23 : decode cL_law 23 = .ok (.if_icmp .gt 867, 3) ∧ 23 + 3 = 26 ∧ ((23 : Nat) : Int) + (867) = ((890 : Nat) : Int) := by decide +kernel
theorem e_L_law_26 : decode cL_law 26 = .ok (.aload_n 0, 1) ∧ 26 + 1 = 27 := by decide +kernel
theorem e_L_law_27 : decode cL_law 27 = .ok (.iload_n 3, 1) ∧ 27 + 1 = 28 := by decide +kernel
theorem e_L_law_28 : decode cL_law 28 = .ok (.iaload, 1) ∧ 28 + 1 = 29 := by decide +kernel
theorem e_L_law_29 : decode cL_law 29 = .ok (.bipush 31, 2) ∧ 29 + 2 = 31 := by decide +kernel
theorem e_L_law_31 : decode cL_law 31 = .ok (.iand, 1) ∧ 31 + 1 = 32 := by decide +kernel
theorem e_L_law_32 : decode cL_law 32 = .ok (.tableswitch 852 0 26 #[124, 187, 200, 213, 226, 249, 282, 315, 338, 361, 384, 417, 430, 443, 466, 499, 522, 555, 568, 591, 624, 637, 660, 719, 773, 806, 829], 124) := by decide +kernel
theorem e_L_law_156 : decode cL_law 156 = .ok (.aload_n 1, 1) ∧ 156 + 1 = 157 := by decide +kernel
theorem e_L_law_157 : decode cL_law 157 = .ok (.aload_n 0, 1) ∧ 157 + 1 = 158 := by decide +kernel
theorem e_L_law_158 : decode cL_law 158 = .ok (.iload_n 3, 1) ∧ 158 + 1 = 159 := by decide +kernel
theorem e_L_law_159 : decode cL_law 159 = .ok (.iconst 1, 1) ∧ 159 + 1 = 160 := by decide +kernel
theorem e_L_law_160 : decode cL_law 160 = .ok (.iadd, 1) ∧ 160 + 1 = 161 := by decide +kernel
theorem e_L_law_161 : decode cL_law 161 = .ok (.iaload, 1) ∧ 161 + 1 = 162 := by decide +kernel
theorem e_L_law_162 : decode cL_law 162 = .ok (.aload_n 0, 1) ∧ 162 + 1 = 163 := by decide +kernel
theorem e_L_law_163 : decode cL_law 163 = .ok (.iload_n 3, 1) ∧ 163 + 1 = 164 := by decide +kernel
theorem e_L_law_164 : decode cL_law 164 = .ok (.iconst 2, 1) ∧ 164 + 1 = 165 := by decide +kernel
theorem e_L_law_165 : decode cL_law 165 = .ok (.iadd, 1) ∧ 165 + 1 = 166 := by decide +kernel
theorem e_L_law_166 : decode cL_law 166 = .ok (.iaload, 1) ∧ 166 + 1 = 167 := by decide +kernel
theorem e_L_law_167 : decode cL_law 167 = .ok (.i2l, 1) ∧ 167 + 1 = 168 := by decide +kernel
theorem e_L_law_168 : decode cL_law 168 = .ok (.bipush 32, 2) ∧ 168 + 2 = 170 := by decide +kernel
theorem e_L_law_170 : decode cL_law 170 = .ok (.lshl, 1) ∧ 170 + 1 = 171 := by decide +kernel
theorem e_L_law_171 : decode cL_law 171 = .ok (.aload_n 0, 1) ∧ 171 + 1 = 172 := by decide +kernel
theorem e_L_law_172 : decode cL_law 172 = .ok (.iload_n 3, 1) ∧ 172 + 1 = 173 := by decide +kernel
theorem e_L_law_173 : decode cL_law 173 = .ok (.iconst 3, 1) ∧ 173 + 1 = 174 := by decide +kernel
theorem e_L_law_174 : decode cL_law 174 = .ok (.iadd, 1) ∧ 174 + 1 = 175 := by decide +kernel
theorem e_L_law_175 : decode cL_law 175 = .ok (.iaload, 1) ∧ 175 + 1 = 176 := by decide +kernel
theorem e_L_law_176 : decode cL_law 176 = .ok (.i2l, 1) ∧ 176 + 1 = 177 := by decide +kernel
theorem e_L_law_177 : decode cL_law 177 = .ok (.ldc2_w 13, 3) ∧ 177 + 3 = 180 := by decide +kernel
theorem e_L_law_180 : decode cL_law 180 = .ok (.land, 1) ∧ 180 + 1 = 181 := by decide +kernel
theorem e_L_law_181 : decode cL_law 181 = .ok (.lor, 1) ∧ 181 + 1 = 182 := by decide +kernel
theorem e_L_law_182 : decode cL_law 182 = .ok (.invokevirtual 15, 3) ∧ 182 + 3 = 185 := by decide +kernel
theorem e_L_law_185 : decode cL_law 185 = .ok (.aload_n 2, 1) ∧ 185 + 1 = 186 := by decide +kernel
theorem e_L_law_186 : decode cL_law 186 = .ok (.aload_n 0, 1) ∧ 186 + 1 = 187 := by decide +kernel
theorem e_L_law_187 : decode cL_law 187 = .ok (.iload_n 3, 1) ∧ 187 + 1 = 188 := by decide +kernel
theorem e_L_law_188 : decode cL_law 188 = .ok (.iconst 1, 1) ∧ 188 + 1 = 189 := by decide +kernel
theorem e_L_law_189 : decode cL_law 189 = .ok (.iadd, 1) ∧ 189 + 1 = 190 := by decide +kernel
theorem e_L_law_190 : decode cL_law 190 = .ok (.iaload, 1) ∧ 190 + 1 = 191 := by decide +kernel
theorem e_L_law_191 : decode cL_law 191 = .ok (.aload_n 0, 1) ∧ 191 + 1 = 192 := by decide +kernel
theorem e_L_law_192 : decode cL_law 192 = .ok (.iload_n 3, 1) ∧ 192 + 1 = 193 := by decide +kernel
theorem e_L_law_193 : decode cL_law 193 = .ok (.iconst 2, 1) ∧ 193 + 1 = 194 := by decide +kernel
theorem e_L_law_194 : decode cL_law 194 = .ok (.iadd, 1) ∧ 194 + 1 = 195 := by decide +kernel
theorem e_L_law_195 : decode cL_law 195 = .ok (.iaload, 1) ∧ 195 + 1 = 196 := by decide +kernel
theorem e_L_law_196 : decode cL_law 196 = .ok (.i2l, 1) ∧ 196 + 1 = 197 := by decide +kernel
theorem e_L_law_197 : decode cL_law 197 = .ok (.bipush 32, 2) ∧ 197 + 2 = 199 := by decide +kernel
theorem e_L_law_199 : decode cL_law 199 = .ok (.lshl, 1) ∧ 199 + 1 = 200 := by decide +kernel
theorem e_L_law_200 : decode cL_law 200 = .ok (.aload_n 0, 1) ∧ 200 + 1 = 201 := by decide +kernel
theorem e_L_law_201 : decode cL_law 201 = .ok (.iload_n 3, 1) ∧ 201 + 1 = 202 := by decide +kernel
theorem e_L_law_202 : decode cL_law 202 = .ok (.iconst 3, 1) ∧ 202 + 1 = 203 := by decide +kernel
theorem e_L_law_203 : decode cL_law 203 = .ok (.iadd, 1) ∧ 203 + 1 = 204 := by decide +kernel
theorem e_L_law_204 : decode cL_law 204 = .ok (.iaload, 1) ∧ 204 + 1 = 205 := by decide +kernel
theorem e_L_law_205 : decode cL_law 205 = .ok (.i2l, 1) ∧ 205 + 1 = 206 := by decide +kernel
theorem e_L_law_206 : decode cL_law 206 = .ok (.ldc2_w 13, 3) ∧ 206 + 3 = 209 := by decide +kernel
theorem e_L_law_209 : decode cL_law 209 = .ok (.land, 1) ∧ 209 + 1 = 210 := by decide +kernel
theorem e_L_law_210 : decode cL_law 210 = .ok (.lor, 1) ∧ 210 + 1 = 211 := by decide +kernel
theorem e_L_law_211 : decode cL_law 211 = .ok (.invokevirtual 19, 3) ∧ 211 + 3 = 214 := by decide +kernel
theorem e_L_law_214 : decode cL_law 214 = .ok (.if_icmp .eq 670, 3) ∧ 214 + 3 = 217 ∧ ((214 : Nat) : Int) + (670) = ((884 : Nat) : Int) := by decide +kernel
theorem e_L_law_217 : decode cL_law 217 = .ok (.iconst 0, 1) ∧ 217 + 1 = 218 := by decide +kernel
theorem e_L_law_218 : decode cL_law 218 = .ok (.ireturn, 1) := by decide +kernel
theorem e_L_law_219 : decode cL_law 219 = .ok (.aload_n 1, 1) ∧ 219 + 1 = 220 := by decide +kernel
theorem e_L_law_220 : decode cL_law 220 = .ok (.invokevirtual 20, 3) ∧ 220 + 3 = 223 := by decide +kernel
theorem e_L_law_223 : decode cL_law 223 = .ok (.aload_n 2, 1) ∧ 223 + 1 = 224 := by decide +kernel
theorem e_L_law_224 : decode cL_law 224 = .ok (.invokevirtual 24, 3) ∧ 224 + 3 = 227 := by decide +kernel
theorem e_L_law_227 : decode cL_law 227 = .ok (.if_icmp .eq 657, 3) ∧ 227 + 3 = 230 ∧ ((227 : Nat) : Int) + (657) = ((884 : Nat) : Int) := by decide +kernel
theorem e_L_law_230 : decode cL_law 230 = .ok (.iconst 0, 1) ∧ 230 + 1 = 231 := by decide +kernel
theorem e_L_law_231 : decode cL_law 231 = .ok (.ireturn, 1) := by decide +kernel
theorem e_L_law_232 : decode cL_law 232 = .ok (.aload_n 1, 1) ∧ 232 + 1 = 233 := by decide +kernel
theorem e_L_law_233 : decode cL_law 233 = .ok (.invokevirtual 25, 3) ∧ 233 + 3 = 236 := by decide +kernel
theorem e_L_law_236 : decode cL_law 236 = .ok (.aload_n 2, 1) ∧ 236 + 1 = 237 := by decide +kernel
theorem e_L_law_237 : decode cL_law 237 = .ok (.invokevirtual 28, 3) ∧ 237 + 3 = 240 := by decide +kernel
theorem e_L_law_240 : decode cL_law 240 = .ok (.if_icmp .eq 644, 3) ∧ 240 + 3 = 243 ∧ ((240 : Nat) : Int) + (644) = ((884 : Nat) : Int) := by decide +kernel
theorem e_L_law_243 : decode cL_law 243 = .ok (.iconst 0, 1) ∧ 243 + 1 = 244 := by decide +kernel
theorem e_L_law_244 : decode cL_law 244 = .ok (.ireturn, 1) := by decide +kernel
theorem e_L_law_245 : decode cL_law 245 = .ok (.aload_n 1, 1) ∧ 245 + 1 = 246 := by decide +kernel
theorem e_L_law_246 : decode cL_law 246 = .ok (.invokevirtual 29, 3) ∧ 246 + 3 = 249 := by decide +kernel
theorem e_L_law_249 : decode cL_law 249 = .ok (.aload_n 2, 1) ∧ 249 + 1 = 250 := by decide +kernel
theorem e_L_law_250 : decode cL_law 250 = .ok (.invokevirtual 32, 3) ∧ 250 + 3 = 253 := by decide +kernel
theorem e_L_law_253 : decode cL_law 253 = .ok (.if_icmp .eq 631, 3) ∧ 253 + 3 = 256 ∧ ((253 : Nat) : Int) + (631) = ((884 : Nat) : Int) := by decide +kernel
theorem e_L_law_256 : decode cL_law 256 = .ok (.iconst 0, 1) ∧ 256 + 1 = 257 := by decide +kernel
theorem e_L_law_257 : decode cL_law 257 = .ok (.ireturn, 1) := by decide +kernel
theorem e_L_law_258 : decode cL_law 258 = .ok (.aload_n 1, 1) ∧ 258 + 1 = 259 := by decide +kernel
theorem e_L_law_259 : decode cL_law 259 = .ok (.aload_n 0, 1) ∧ 259 + 1 = 260 := by decide +kernel
theorem e_L_law_260 : decode cL_law 260 = .ok (.iload_n 3, 1) ∧ 260 + 1 = 261 := by decide +kernel
theorem e_L_law_261 : decode cL_law 261 = .ok (.iconst 1, 1) ∧ 261 + 1 = 262 := by decide +kernel
theorem e_L_law_262 : decode cL_law 262 = .ok (.iadd, 1) ∧ 262 + 1 = 263 := by decide +kernel
theorem e_L_law_263 : decode cL_law 263 = .ok (.iaload, 1) ∧ 263 + 1 = 264 := by decide +kernel
theorem e_L_law_264 : decode cL_law 264 = .ok (.invokevirtual 33, 3) ∧ 264 + 3 = 267 := by decide +kernel
theorem e_L_law_267 : decode cL_law 267 = .ok (.aload_n 2, 1) ∧ 267 + 1 = 268 := by decide +kernel
theorem e_L_law_268 : decode cL_law 268 = .ok (.aload_n 0, 1) ∧ 268 + 1 = 269 := by decide +kernel
theorem e_L_law_269 : decode cL_law 269 = .ok (.iload_n 3, 1) ∧ 269 + 1 = 270 := by decide +kernel
theorem e_L_law_270 : decode cL_law 270 = .ok (.iconst 1, 1) ∧ 270 + 1 = 271 := by decide +kernel
theorem e_L_law_271 : decode cL_law 271 = .ok (.iadd, 1) ∧ 271 + 1 = 272 := by decide +kernel
theorem e_L_law_272 : decode cL_law 272 = .ok (.iaload, 1) ∧ 272 + 1 = 273 := by decide +kernel
theorem e_L_law_273 : decode cL_law 273 = .ok (.invokevirtual 37, 3) ∧ 273 + 3 = 276 := by decide +kernel
theorem e_L_law_276 : decode cL_law 276 = .ok (.if_icmp .eq 608, 3) ∧ 276 + 3 = 279 ∧ ((276 : Nat) : Int) + (608) = ((884 : Nat) : Int) := by decide +kernel
theorem e_L_law_279 : decode cL_law 279 = .ok (.iconst 0, 1) ∧ 279 + 1 = 280 := by decide +kernel
theorem e_L_law_280 : decode cL_law 280 = .ok (.ireturn, 1) := by decide +kernel
theorem e_L_law_281 : decode cL_law 281 = .ok (.aload_n 1, 1) ∧ 281 + 1 = 282 := by decide +kernel
theorem e_L_law_282 : decode cL_law 282 = .ok (.aload_n 0, 1) ∧ 282 + 1 = 283 := by decide +kernel
theorem e_L_law_283 : decode cL_law 283 = .ok (.iload_n 3, 1) ∧ 283 + 1 = 284 := by decide +kernel
theorem e_L_law_284 : decode cL_law 284 = .ok (.iconst 1, 1) ∧ 284 + 1 = 285 := by decide +kernel
theorem e_L_law_285 : decode cL_law 285 = .ok (.iadd, 1) ∧ 285 + 1 = 286 := by decide +kernel
theorem e_L_law_286 : decode cL_law 286 = .ok (.iaload, 1) ∧ 286 + 1 = 287 := by decide +kernel
theorem e_L_law_287 : decode cL_law 287 = .ok (.aload_n 0, 1) ∧ 287 + 1 = 288 := by decide +kernel
theorem e_L_law_288 : decode cL_law 288 = .ok (.iload_n 3, 1) ∧ 288 + 1 = 289 := by decide +kernel
theorem e_L_law_289 : decode cL_law 289 = .ok (.iconst 2, 1) ∧ 289 + 1 = 290 := by decide +kernel
theorem e_L_law_290 : decode cL_law 290 = .ok (.iadd, 1) ∧ 290 + 1 = 291 := by decide +kernel
theorem e_L_law_291 : decode cL_law 291 = .ok (.iaload, 1) ∧ 291 + 1 = 292 := by decide +kernel
theorem e_L_law_292 : decode cL_law 292 = .ok (.invokevirtual 38, 3) ∧ 292 + 3 = 295 := by decide +kernel
theorem e_L_law_295 : decode cL_law 295 = .ok (.aload_n 2, 1) ∧ 295 + 1 = 296 := by decide +kernel
theorem e_L_law_296 : decode cL_law 296 = .ok (.aload_n 0, 1) ∧ 296 + 1 = 297 := by decide +kernel
theorem e_L_law_297 : decode cL_law 297 = .ok (.iload_n 3, 1) ∧ 297 + 1 = 298 := by decide +kernel
theorem e_L_law_298 : decode cL_law 298 = .ok (.iconst 1, 1) ∧ 298 + 1 = 299 := by decide +kernel
theorem e_L_law_299 : decode cL_law 299 = .ok (.iadd, 1) ∧ 299 + 1 = 300 := by decide +kernel
theorem e_L_law_300 : decode cL_law 300 = .ok (.iaload, 1) ∧ 300 + 1 = 301 := by decide +kernel
theorem e_L_law_301 : decode cL_law 301 = .ok (.aload_n 0, 1) ∧ 301 + 1 = 302 := by decide +kernel
theorem e_L_law_302 : decode cL_law 302 = .ok (.iload_n 3, 1) ∧ 302 + 1 = 303 := by decide +kernel
theorem e_L_law_303 : decode cL_law 303 = .ok (.iconst 2, 1) ∧ 303 + 1 = 304 := by decide +kernel
theorem e_L_law_304 : decode cL_law 304 = .ok (.iadd, 1) ∧ 304 + 1 = 305 := by decide +kernel
theorem e_L_law_305 : decode cL_law 305 = .ok (.iaload, 1) ∧ 305 + 1 = 306 := by decide +kernel
theorem e_L_law_306 : decode cL_law 306 = .ok (.invokevirtual 42, 3) ∧ 306 + 3 = 309 := by decide +kernel
theorem e_L_law_309 : decode cL_law 309 = .ok (.if_icmp .eq 575, 3) ∧ 309 + 3 = 312 ∧ ((309 : Nat) : Int) + (575) = ((884 : Nat) : Int) := by decide +kernel
theorem e_L_law_312 : decode cL_law 312 = .ok (.iconst 0, 1) ∧ 312 + 1 = 313 := by decide +kernel
theorem e_L_law_313 : decode cL_law 313 = .ok (.ireturn, 1) := by decide +kernel
theorem e_L_law_314 : decode cL_law 314 = .ok (.aload_n 1, 1) ∧ 314 + 1 = 315 := by decide +kernel
theorem e_L_law_315 : decode cL_law 315 = .ok (.aload_n 0, 1) ∧ 315 + 1 = 316 := by decide +kernel
theorem e_L_law_316 : decode cL_law 316 = .ok (.iload_n 3, 1) ∧ 316 + 1 = 317 := by decide +kernel
theorem e_L_law_317 : decode cL_law 317 = .ok (.iconst 1, 1) ∧ 317 + 1 = 318 := by decide +kernel
theorem e_L_law_318 : decode cL_law 318 = .ok (.iadd, 1) ∧ 318 + 1 = 319 := by decide +kernel
theorem e_L_law_319 : decode cL_law 319 = .ok (.iaload, 1) ∧ 319 + 1 = 320 := by decide +kernel
theorem e_L_law_320 : decode cL_law 320 = .ok (.aload_n 0, 1) ∧ 320 + 1 = 321 := by decide +kernel
theorem e_L_law_321 : decode cL_law 321 = .ok (.iload_n 3, 1) ∧ 321 + 1 = 322 := by decide +kernel
theorem e_L_law_322 : decode cL_law 322 = .ok (.iconst 2, 1) ∧ 322 + 1 = 323 := by decide +kernel
theorem e_L_law_323 : decode cL_law 323 = .ok (.iadd, 1) ∧ 323 + 1 = 324 := by decide +kernel
theorem e_L_law_324 : decode cL_law 324 = .ok (.iaload, 1) ∧ 324 + 1 = 325 := by decide +kernel
theorem e_L_law_325 : decode cL_law 325 = .ok (.invokevirtual 43, 3) ∧ 325 + 3 = 328 := by decide +kernel
theorem e_L_law_328 : decode cL_law 328 = .ok (.aload_n 2, 1) ∧ 328 + 1 = 329 := by decide +kernel
theorem e_L_law_329 : decode cL_law 329 = .ok (.aload_n 0, 1) ∧ 329 + 1 = 330 := by decide +kernel
theorem e_L_law_330 : decode cL_law 330 = .ok (.iload_n 3, 1) ∧ 330 + 1 = 331 := by decide +kernel
theorem e_L_law_331 : decode cL_law 331 = .ok (.iconst 1, 1) ∧ 331 + 1 = 332 := by decide +kernel
theorem e_L_law_332 : decode cL_law 332 = .ok (.iadd, 1) ∧ 332 + 1 = 333 := by decide +kernel
theorem e_L_law_333 : decode cL_law 333 = .ok (.iaload, 1) ∧ 333 + 1 = 334 := by decide +kernel
theorem e_L_law_334 : decode cL_law 334 = .ok (.aload_n 0, 1) ∧ 334 + 1 = 335 := by decide +kernel
theorem e_L_law_335 : decode cL_law 335 = .ok (.iload_n 3, 1) ∧ 335 + 1 = 336 := by decide +kernel
theorem e_L_law_336 : decode cL_law 336 = .ok (.iconst 2, 1) ∧ 336 + 1 = 337 := by decide +kernel
theorem e_L_law_337 : decode cL_law 337 = .ok (.iadd, 1) ∧ 337 + 1 = 338 := by decide +kernel
theorem e_L_law_338 : decode cL_law 338 = .ok (.iaload, 1) ∧ 338 + 1 = 339 := by decide +kernel
theorem e_L_law_339 : decode cL_law 339 = .ok (.invokevirtual 46, 3) ∧ 339 + 3 = 342 := by decide +kernel
theorem e_L_law_342 : decode cL_law 342 = .ok (.if_icmp .eq 542, 3) ∧ 342 + 3 = 345 ∧ ((342 : Nat) : Int) + (542) = ((884 : Nat) : Int) := by decide +kernel
theorem e_L_law_345 : decode cL_law 345 = .ok (.iconst 0, 1) ∧ 345 + 1 = 346 := by decide +kernel
theorem e_L_law_346 : decode cL_law 346 = .ok (.ireturn, 1) := by decide +kernel
theorem e_L_law_347 : decode cL_law 347 = .ok (.aload_n 1, 1) ∧ 347 + 1 = 348 := by decide +kernel
theorem e_L_law_348 : decode cL_law 348 = .ok (.aload_n 0, 1) ∧ 348 + 1 = 349 := by decide +kernel
theorem e_L_law_349 : decode cL_law 349 = .ok (.iload_n 3, 1) ∧ 349 + 1 = 350 := by decide +kernel
theorem e_L_law_350 : decode cL_law 350 = .ok (.iconst 1, 1) ∧ 350 + 1 = 351 := by decide +kernel
theorem e_L_law_351 : decode cL_law 351 = .ok (.iadd, 1) ∧ 351 + 1 = 352 := by decide +kernel
theorem e_L_law_352 : decode cL_law 352 = .ok (.iaload, 1) ∧ 352 + 1 = 353 := by decide +kernel
theorem e_L_law_353 : decode cL_law 353 = .ok (.invokevirtual 47, 3) ∧ 353 + 3 = 356 := by decide +kernel
theorem e_L_law_356 : decode cL_law 356 = .ok (.aload_n 2, 1) ∧ 356 + 1 = 357 := by decide +kernel
theorem e_L_law_357 : decode cL_law 357 = .ok (.aload_n 0, 1) ∧ 357 + 1 = 358 := by decide +kernel
theorem e_L_law_358 : decode cL_law 358 = .ok (.iload_n 3, 1) ∧ 358 + 1 = 359 := by decide +kernel
theorem e_L_law_359 : decode cL_law 359 = .ok (.iconst 1, 1) ∧ 359 + 1 = 360 := by decide +kernel
theorem e_L_law_360 : decode cL_law 360 = .ok (.iadd, 1) ∧ 360 + 1 = 361 := by decide +kernel
theorem e_L_law_361 : decode cL_law 361 = .ok (.iaload, 1) ∧ 361 + 1 = 362 := by decide +kernel
theorem e_L_law_362 : decode cL_law 362 = .ok (.invokevirtual 50, 3) ∧ 362 + 3 = 365 := by decide +kernel
theorem e_L_law_365 : decode cL_law 365 = .ok (.if_icmp .eq 519, 3) ∧ 365 + 3 = 368 ∧ ((365 : Nat) : Int) + (519) = ((884 : Nat) : Int) := by decide +kernel
theorem e_L_law_368 : decode cL_law 368 = .ok (.iconst 0, 1) ∧ 368 + 1 = 369 := by decide +kernel
theorem e_L_law_369 : decode cL_law 369 = .ok (.ireturn, 1) := by decide +kernel
theorem e_L_law_370 : decode cL_law 370 = .ok (.aload_n 1, 1) ∧ 370 + 1 = 371 := by decide +kernel
theorem e_L_law_371 : decode cL_law 371 = .ok (.aload_n 0, 1) ∧ 371 + 1 = 372 := by decide +kernel
theorem e_L_law_372 : decode cL_law 372 = .ok (.iload_n 3, 1) ∧ 372 + 1 = 373 := by decide +kernel
theorem e_L_law_373 : decode cL_law 373 = .ok (.iconst 1, 1) ∧ 373 + 1 = 374 := by decide +kernel
theorem e_L_law_374 : decode cL_law 374 = .ok (.iadd, 1) ∧ 374 + 1 = 375 := by decide +kernel
theorem e_L_law_375 : decode cL_law 375 = .ok (.iaload, 1) ∧ 375 + 1 = 376 := by decide +kernel
theorem e_L_law_376 : decode cL_law 376 = .ok (.invokevirtual 51, 3) ∧ 376 + 3 = 379 := by decide +kernel
theorem e_L_law_379 : decode cL_law 379 = .ok (.aload_n 2, 1) ∧ 379 + 1 = 380 := by decide +kernel
theorem e_L_law_380 : decode cL_law 380 = .ok (.aload_n 0, 1) ∧ 380 + 1 = 381 := by decide +kernel
theorem e_L_law_381 : decode cL_law 381 = .ok (.iload_n 3, 1) ∧ 381 + 1 = 382 := by decide +kernel
theorem e_L_law_382 : decode cL_law 382 = .ok (.iconst 1, 1) ∧ 382 + 1 = 383 := by decide +kernel
theorem e_L_law_383 : decode cL_law 383 = .ok (.iadd, 1) ∧ 383 + 1 = 384 := by decide +kernel
theorem e_L_law_384 : decode cL_law 384 = .ok (.iaload, 1) ∧ 384 + 1 = 385 := by decide +kernel
theorem e_L_law_385 : decode cL_law 385 = .ok (.invokevirtual 54, 3) ∧ 385 + 3 = 388 := by decide +kernel
theorem e_L_law_388 : decode cL_law 388 = .ok (.if_icmp .eq 496, 3) ∧ 388 + 3 = 391 ∧ ((388 : Nat) : Int) + (496) = ((884 : Nat) : Int) := by decide +kernel
theorem e_L_law_391 : decode cL_law 391 = .ok (.iconst 0, 1) ∧ 391 + 1 = 392 := by decide +kernel
theorem e_L_law_392 : decode cL_law 392 = .ok (.ireturn, 1) := by decide +kernel
theorem e_L_law_393 : decode cL_law 393 = .ok (.aload_n 1, 1) ∧ 393 + 1 = 394 := by decide +kernel
theorem e_L_law_394 : decode cL_law 394 = .ok (.aload_n 0, 1) ∧ 394 + 1 = 395 := by decide +kernel
theorem e_L_law_395 : decode cL_law 395 = .ok (.iload_n 3, 1) ∧ 395 + 1 = 396 := by decide +kernel
theorem e_L_law_396 : decode cL_law 396 = .ok (.iconst 1, 1) ∧ 396 + 1 = 397 := by decide +kernel
theorem e_L_law_397 : decode cL_law 397 = .ok (.iadd, 1) ∧ 397 + 1 = 398 := by decide +kernel
theorem e_L_law_398 : decode cL_law 398 = .ok (.iaload, 1) ∧ 398 + 1 = 399 := by decide +kernel
theorem e_L_law_399 : decode cL_law 399 = .ok (.invokevirtual 55, 3) ∧ 399 + 3 = 402 := by decide +kernel
theorem e_L_law_402 : decode cL_law 402 = .ok (.aload_n 2, 1) ∧ 402 + 1 = 403 := by decide +kernel
theorem e_L_law_403 : decode cL_law 403 = .ok (.aload_n 0, 1) ∧ 403 + 1 = 404 := by decide +kernel
theorem e_L_law_404 : decode cL_law 404 = .ok (.iload_n 3, 1) ∧ 404 + 1 = 405 := by decide +kernel
theorem e_L_law_405 : decode cL_law 405 = .ok (.iconst 1, 1) ∧ 405 + 1 = 406 := by decide +kernel
theorem e_L_law_406 : decode cL_law 406 = .ok (.iadd, 1) ∧ 406 + 1 = 407 := by decide +kernel
theorem e_L_law_407 : decode cL_law 407 = .ok (.iaload, 1) ∧ 407 + 1 = 408 := by decide +kernel
theorem e_L_law_408 : decode cL_law 408 = .ok (.invokevirtual 58, 3) ∧ 408 + 3 = 411 := by decide +kernel
theorem e_L_law_411 : decode cL_law 411 = .ok (.if_icmp .eq 473, 3) ∧ 411 + 3 = 414 ∧ ((411 : Nat) : Int) + (473) = ((884 : Nat) : Int) := by decide +kernel
theorem e_L_law_414 : decode cL_law 414 = .ok (.iconst 0, 1) ∧ 414 + 1 = 415 := by decide +kernel
theorem e_L_law_415 : decode cL_law 415 = .ok (.ireturn, 1) := by decide +kernel
theorem e_L_law_416 : decode cL_law 416 = .ok (.aload_n 1, 1) ∧ 416 + 1 = 417 := by decide +kernel
theorem e_L_law_417 : decode cL_law 417 = .ok (.aload_n 0, 1) ∧ 417 + 1 = 418 := by decide +kernel
theorem e_L_law_418 : decode cL_law 418 = .ok (.iload_n 3, 1) ∧ 418 + 1 = 419 := by decide +kernel
theorem e_L_law_419 : decode cL_law 419 = .ok (.iconst 1, 1) ∧ 419 + 1 = 420 := by decide +kernel
theorem e_L_law_420 : decode cL_law 420 = .ok (.iadd, 1) ∧ 420 + 1 = 421 := by decide +kernel
theorem e_L_law_421 : decode cL_law 421 = .ok (.iaload, 1) ∧ 421 + 1 = 422 := by decide +kernel
theorem e_L_law_422 : decode cL_law 422 = .ok (.aload_n 0, 1) ∧ 422 + 1 = 423 := by decide +kernel
theorem e_L_law_423 : decode cL_law 423 = .ok (.iload_n 3, 1) ∧ 423 + 1 = 424 := by decide +kernel
theorem e_L_law_424 : decode cL_law 424 = .ok (.iconst 2, 1) ∧ 424 + 1 = 425 := by decide +kernel
theorem e_L_law_425 : decode cL_law 425 = .ok (.iadd, 1) ∧ 425 + 1 = 426 := by decide +kernel
theorem e_L_law_426 : decode cL_law 426 = .ok (.iaload, 1) ∧ 426 + 1 = 427 := by decide +kernel
theorem e_L_law_427 : decode cL_law 427 = .ok (.invokevirtual 59, 3) ∧ 427 + 3 = 430 := by decide +kernel
theorem e_L_law_430 : decode cL_law 430 = .ok (.aload_n 2, 1) ∧ 430 + 1 = 431 := by decide +kernel
theorem e_L_law_431 : decode cL_law 431 = .ok (.aload_n 0, 1) ∧ 431 + 1 = 432 := by decide +kernel
theorem e_L_law_432 : decode cL_law 432 = .ok (.iload_n 3, 1) ∧ 432 + 1 = 433 := by decide +kernel
theorem e_L_law_433 : decode cL_law 433 = .ok (.iconst 1, 1) ∧ 433 + 1 = 434 := by decide +kernel
theorem e_L_law_434 : decode cL_law 434 = .ok (.iadd, 1) ∧ 434 + 1 = 435 := by decide +kernel
theorem e_L_law_435 : decode cL_law 435 = .ok (.iaload, 1) ∧ 435 + 1 = 436 := by decide +kernel
theorem e_L_law_436 : decode cL_law 436 = .ok (.aload_n 0, 1) ∧ 436 + 1 = 437 := by decide +kernel
theorem e_L_law_437 : decode cL_law 437 = .ok (.iload_n 3, 1) ∧ 437 + 1 = 438 := by decide +kernel
theorem e_L_law_438 : decode cL_law 438 = .ok (.iconst 2, 1) ∧ 438 + 1 = 439 := by decide +kernel
theorem e_L_law_439 : decode cL_law 439 = .ok (.iadd, 1) ∧ 439 + 1 = 440 := by decide +kernel
theorem e_L_law_440 : decode cL_law 440 = .ok (.iaload, 1) ∧ 440 + 1 = 441 := by decide +kernel
theorem e_L_law_441 : decode cL_law 441 = .ok (.invokevirtual 62, 3) ∧ 441 + 3 = 444 := by decide +kernel
theorem e_L_law_444 : decode cL_law 444 = .ok (.if_icmp .eq 440, 3) ∧ 444 + 3 = 447 ∧ ((444 : Nat) : Int) + (440) = ((884 : Nat) : Int) := by decide +kernel
theorem e_L_law_447 : decode cL_law 447 = .ok (.iconst 0, 1) ∧ 447 + 1 = 448 := by decide +kernel
theorem e_L_law_448 : decode cL_law 448 = .ok (.ireturn, 1) := by decide +kernel
theorem e_L_law_449 : decode cL_law 449 = .ok (.aload_n 1, 1) ∧ 449 + 1 = 450 := by decide +kernel
theorem e_L_law_450 : decode cL_law 450 = .ok (.invokevirtual 63, 3) ∧ 450 + 3 = 453 := by decide +kernel
theorem e_L_law_453 : decode cL_law 453 = .ok (.aload_n 2, 1) ∧ 453 + 1 = 454 := by decide +kernel
theorem e_L_law_454 : decode cL_law 454 = .ok (.invokevirtual 66, 3) ∧ 454 + 3 = 457 := by decide +kernel
theorem e_L_law_457 : decode cL_law 457 = .ok (.if_icmp .eq 427, 3) ∧ 457 + 3 = 460 ∧ ((457 : Nat) : Int) + (427) = ((884 : Nat) : Int) := by decide +kernel
theorem e_L_law_460 : decode cL_law 460 = .ok (.iconst 0, 1) ∧ 460 + 1 = 461 := by decide +kernel
theorem e_L_law_461 : decode cL_law 461 = .ok (.ireturn, 1) := by decide +kernel
theorem e_L_law_462 : decode cL_law 462 = .ok (.aload_n 1, 1) ∧ 462 + 1 = 463 := by decide +kernel
theorem e_L_law_463 : decode cL_law 463 = .ok (.invokevirtual 67, 3) ∧ 463 + 3 = 466 := by decide +kernel
theorem e_L_law_466 : decode cL_law 466 = .ok (.aload_n 2, 1) ∧ 466 + 1 = 467 := by decide +kernel
theorem e_L_law_467 : decode cL_law 467 = .ok (.invokevirtual 70, 3) ∧ 467 + 3 = 470 := by decide +kernel
theorem e_L_law_470 : decode cL_law 470 = .ok (.if_icmp .eq 414, 3) ∧ 470 + 3 = 473 ∧ ((470 : Nat) : Int) + (414) = ((884 : Nat) : Int) := by decide +kernel
theorem e_L_law_473 : decode cL_law 473 = .ok (.iconst 0, 1) ∧ 473 + 1 = 474 := by decide +kernel
theorem e_L_law_474 : decode cL_law 474 = .ok (.ireturn, 1) := by decide +kernel
theorem e_L_law_475 : decode cL_law 475 = .ok (.aload_n 1, 1) ∧ 475 + 1 = 476 := by decide +kernel
theorem e_L_law_476 : decode cL_law 476 = .ok (.aload_n 0, 1) ∧ 476 + 1 = 477 := by decide +kernel
theorem e_L_law_477 : decode cL_law 477 = .ok (.iload_n 3, 1) ∧ 477 + 1 = 478 := by decide +kernel
theorem e_L_law_478 : decode cL_law 478 = .ok (.iconst 1, 1) ∧ 478 + 1 = 479 := by decide +kernel
theorem e_L_law_479 : decode cL_law 479 = .ok (.iadd, 1) ∧ 479 + 1 = 480 := by decide +kernel
theorem e_L_law_480 : decode cL_law 480 = .ok (.iaload, 1) ∧ 480 + 1 = 481 := by decide +kernel
theorem e_L_law_481 : decode cL_law 481 = .ok (.invokevirtual 71, 3) ∧ 481 + 3 = 484 := by decide +kernel
theorem e_L_law_484 : decode cL_law 484 = .ok (.aload_n 2, 1) ∧ 484 + 1 = 485 := by decide +kernel
theorem e_L_law_485 : decode cL_law 485 = .ok (.aload_n 0, 1) ∧ 485 + 1 = 486 := by decide +kernel
theorem e_L_law_486 : decode cL_law 486 = .ok (.iload_n 3, 1) ∧ 486 + 1 = 487 := by decide +kernel
theorem e_L_law_487 : decode cL_law 487 = .ok (.iconst 1, 1) ∧ 487 + 1 = 488 := by decide +kernel
theorem e_L_law_488 : decode cL_law 488 = .ok (.iadd, 1) ∧ 488 + 1 = 489 := by decide +kernel
theorem e_L_law_489 : decode cL_law 489 = .ok (.iaload, 1) ∧ 489 + 1 = 490 := by decide +kernel
theorem e_L_law_490 : decode cL_law 490 = .ok (.invokevirtual 74, 3) ∧ 490 + 3 = 493 := by decide +kernel
theorem e_L_law_493 : decode cL_law 493 = .ok (.if_icmp .eq 391, 3) ∧ 493 + 3 = 496 ∧ ((493 : Nat) : Int) + (391) = ((884 : Nat) : Int) := by decide +kernel
theorem e_L_law_496 : decode cL_law 496 = .ok (.iconst 0, 1) ∧ 496 + 1 = 497 := by decide +kernel
theorem e_L_law_497 : decode cL_law 497 = .ok (.ireturn, 1) := by decide +kernel
theorem e_L_law_498 : decode cL_law 498 = .ok (.aload_n 1, 1) ∧ 498 + 1 = 499 := by decide +kernel
theorem e_L_law_499 : decode cL_law 499 = .ok (.aload_n 0, 1) ∧ 499 + 1 = 500 := by decide +kernel
theorem e_L_law_500 : decode cL_law 500 = .ok (.iload_n 3, 1) ∧ 500 + 1 = 501 := by decide +kernel
theorem e_L_law_501 : decode cL_law 501 = .ok (.iconst 1, 1) ∧ 501 + 1 = 502 := by decide +kernel
theorem e_L_law_502 : decode cL_law 502 = .ok (.iadd, 1) ∧ 502 + 1 = 503 := by decide +kernel
theorem e_L_law_503 : decode cL_law 503 = .ok (.iaload, 1) ∧ 503 + 1 = 504 := by decide +kernel
theorem e_L_law_504 : decode cL_law 504 = .ok (.aload_n 0, 1) ∧ 504 + 1 = 505 := by decide +kernel
theorem e_L_law_505 : decode cL_law 505 = .ok (.iload_n 3, 1) ∧ 505 + 1 = 506 := by decide +kernel
theorem e_L_law_506 : decode cL_law 506 = .ok (.iconst 2, 1) ∧ 506 + 1 = 507 := by decide +kernel
theorem e_L_law_507 : decode cL_law 507 = .ok (.iadd, 1) ∧ 507 + 1 = 508 := by decide +kernel
theorem e_L_law_508 : decode cL_law 508 = .ok (.iaload, 1) ∧ 508 + 1 = 509 := by decide +kernel
theorem e_L_law_509 : decode cL_law 509 = .ok (.invokevirtual 75, 3) ∧ 509 + 3 = 512 := by decide +kernel
theorem e_L_law_512 : decode cL_law 512 = .ok (.aload_n 2, 1) ∧ 512 + 1 = 513 := by decide +kernel
theorem e_L_law_513 : decode cL_law 513 = .ok (.aload_n 0, 1) ∧ 513 + 1 = 514 := by decide +kernel
theorem e_L_law_514 : decode cL_law 514 = .ok (.iload_n 3, 1) ∧ 514 + 1 = 515 := by decide +kernel
theorem e_L_law_515 : decode cL_law 515 = .ok (.iconst 1, 1) ∧ 515 + 1 = 516 := by decide +kernel
theorem e_L_law_516 : decode cL_law 516 = .ok (.iadd, 1) ∧ 516 + 1 = 517 := by decide +kernel
theorem e_L_law_517 : decode cL_law 517 = .ok (.iaload, 1) ∧ 517 + 1 = 518 := by decide +kernel
theorem e_L_law_518 : decode cL_law 518 = .ok (.aload_n 0, 1) ∧ 518 + 1 = 519 := by decide +kernel
theorem e_L_law_519 : decode cL_law 519 = .ok (.iload_n 3, 1) ∧ 519 + 1 = 520 := by decide +kernel
theorem e_L_law_520 : decode cL_law 520 = .ok (.iconst 2, 1) ∧ 520 + 1 = 521 := by decide +kernel
theorem e_L_law_521 : decode cL_law 521 = .ok (.iadd, 1) ∧ 521 + 1 = 522 := by decide +kernel
theorem e_L_law_522 : decode cL_law 522 = .ok (.iaload, 1) ∧ 522 + 1 = 523 := by decide +kernel
theorem e_L_law_523 : decode cL_law 523 = .ok (.invokevirtual 78, 3) ∧ 523 + 3 = 526 := by decide +kernel
theorem e_L_law_526 : decode cL_law 526 = .ok (.if_icmp .eq 358, 3) ∧ 526 + 3 = 529 ∧ ((526 : Nat) : Int) + (358) = ((884 : Nat) : Int) := by decide +kernel
theorem e_L_law_529 : decode cL_law 529 = .ok (.iconst 0, 1) ∧ 529 + 1 = 530 := by decide +kernel
theorem e_L_law_530 : decode cL_law 530 = .ok (.ireturn, 1) := by decide +kernel
theorem e_L_law_531 : decode cL_law 531 = .ok (.aload_n 1, 1) ∧ 531 + 1 = 532 := by decide +kernel
theorem e_L_law_532 : decode cL_law 532 = .ok (.aload_n 0, 1) ∧ 532 + 1 = 533 := by decide +kernel
theorem e_L_law_533 : decode cL_law 533 = .ok (.iload_n 3, 1) ∧ 533 + 1 = 534 := by decide +kernel
theorem e_L_law_534 : decode cL_law 534 = .ok (.iconst 1, 1) ∧ 534 + 1 = 535 := by decide +kernel
theorem e_L_law_535 : decode cL_law 535 = .ok (.iadd, 1) ∧ 535 + 1 = 536 := by decide +kernel
theorem e_L_law_536 : decode cL_law 536 = .ok (.iaload, 1) ∧ 536 + 1 = 537 := by decide +kernel
theorem e_L_law_537 : decode cL_law 537 = .ok (.invokevirtual 79, 3) ∧ 537 + 3 = 540 := by decide +kernel
theorem e_L_law_540 : decode cL_law 540 = .ok (.aload_n 2, 1) ∧ 540 + 1 = 541 := by decide +kernel
theorem e_L_law_541 : decode cL_law 541 = .ok (.aload_n 0, 1) ∧ 541 + 1 = 542 := by decide +kernel
theorem e_L_law_542 : decode cL_law 542 = .ok (.iload_n 3, 1) ∧ 542 + 1 = 543 := by decide +kernel
theorem e_L_law_543 : decode cL_law 543 = .ok (.iconst 1, 1) ∧ 543 + 1 = 544 := by decide +kernel
theorem e_L_law_544 : decode cL_law 544 = .ok (.iadd, 1) ∧ 544 + 1 = 545 := by decide +kernel
theorem e_L_law_545 : decode cL_law 545 = .ok (.iaload, 1) ∧ 545 + 1 = 546 := by decide +kernel
theorem e_L_law_546 : decode cL_law 546 = .ok (.invokevirtual 82, 3) ∧ 546 + 3 = 549 := by decide +kernel
theorem e_L_law_549 : decode cL_law 549 = .ok (.if_icmp .eq 335, 3) ∧ 549 + 3 = 552 ∧ ((549 : Nat) : Int) + (335) = ((884 : Nat) : Int) := by decide +kernel
theorem e_L_law_552 : decode cL_law 552 = .ok (.iconst 0, 1) ∧ 552 + 1 = 553 := by decide +kernel
theorem e_L_law_553 : decode cL_law 553 = .ok (.ireturn, 1) := by decide +kernel
theorem e_L_law_554 : decode cL_law 554 = .ok (.aload_n 1, 1) ∧ 554 + 1 = 555 := by decide +kernel
theorem e_L_law_555 : decode cL_law 555 = .ok (.aload_n 0, 1) ∧ 555 + 1 = 556 := by decide +kernel
theorem e_L_law_556 : decode cL_law 556 = .ok (.iload_n 3, 1) ∧ 556 + 1 = 557 := by decide +kernel
theorem e_L_law_557 : decode cL_law 557 = .ok (.iconst 1, 1) ∧ 557 + 1 = 558 := by decide +kernel
theorem e_L_law_558 : decode cL_law 558 = .ok (.iadd, 1) ∧ 558 + 1 = 559 := by decide +kernel
theorem e_L_law_559 : decode cL_law 559 = .ok (.iaload, 1) ∧ 559 + 1 = 560 := by decide +kernel
theorem e_L_law_560 : decode cL_law 560 = .ok (.aload_n 0, 1) ∧ 560 + 1 = 561 := by decide +kernel
theorem e_L_law_561 : decode cL_law 561 = .ok (.iload_n 3, 1) ∧ 561 + 1 = 562 := by decide +kernel
theorem e_L_law_562 : decode cL_law 562 = .ok (.iconst 2, 1) ∧ 562 + 1 = 563 := by decide +kernel
theorem e_L_law_563 : decode cL_law 563 = .ok (.iadd, 1) ∧ 563 + 1 = 564 := by decide +kernel
theorem e_L_law_564 : decode cL_law 564 = .ok (.iaload, 1) ∧ 564 + 1 = 565 := by decide +kernel
theorem e_L_law_565 : decode cL_law 565 = .ok (.invokevirtual 83, 3) ∧ 565 + 3 = 568 := by decide +kernel
theorem e_L_law_568 : decode cL_law 568 = .ok (.aload_n 2, 1) ∧ 568 + 1 = 569 := by decide +kernel
theorem e_L_law_569 : decode cL_law 569 = .ok (.aload_n 0, 1) ∧ 569 + 1 = 570 := by decide +kernel
theorem e_L_law_570 : decode cL_law 570 = .ok (.iload_n 3, 1) ∧ 570 + 1 = 571 := by decide +kernel
theorem e_L_law_571 : decode cL_law 571 = .ok (.iconst 1, 1) ∧ 571 + 1 = 572 := by decide +kernel
theorem e_L_law_572 : decode cL_law 572 = .ok (.iadd, 1) ∧ 572 + 1 = 573 := by decide +kernel
theorem e_L_law_573 : decode cL_law 573 = .ok (.iaload, 1) ∧ 573 + 1 = 574 := by decide +kernel
theorem e_L_law_574 : decode cL_law 574 = .ok (.aload_n 0, 1) ∧ 574 + 1 = 575 := by decide +kernel
theorem e_L_law_575 : decode cL_law 575 = .ok (.iload_n 3, 1) ∧ 575 + 1 = 576 := by decide +kernel
theorem e_L_law_576 : decode cL_law 576 = .ok (.iconst 2, 1) ∧ 576 + 1 = 577 := by decide +kernel
theorem e_L_law_577 : decode cL_law 577 = .ok (.iadd, 1) ∧ 577 + 1 = 578 := by decide +kernel
theorem e_L_law_578 : decode cL_law 578 = .ok (.iaload, 1) ∧ 578 + 1 = 579 := by decide +kernel
theorem e_L_law_579 : decode cL_law 579 = .ok (.invokevirtual 86, 3) ∧ 579 + 3 = 582 := by decide +kernel
theorem e_L_law_582 : decode cL_law 582 = .ok (.if_icmp .eq 302, 3) ∧ 582 + 3 = 585 ∧ ((582 : Nat) : Int) + (302) = ((884 : Nat) : Int) := by decide +kernel
theorem e_L_law_585 : decode cL_law 585 = .ok (.iconst 0, 1) ∧ 585 + 1 = 586 := by decide +kernel
theorem e_L_law_586 : decode cL_law 586 = .ok (.ireturn, 1) := by decide +kernel
theorem e_L_law_587 : decode cL_law 587 = .ok (.aload_n 1, 1) ∧ 587 + 1 = 588 := by decide +kernel
theorem e_L_law_588 : decode cL_law 588 = .ok (.invokevirtual 87, 3) ∧ 588 + 3 = 591 := by decide +kernel
theorem e_L_law_591 : decode cL_law 591 = .ok (.aload_n 2, 1) ∧ 591 + 1 = 592 := by decide +kernel
theorem e_L_law_592 : decode cL_law 592 = .ok (.invokevirtual 90, 3) ∧ 592 + 3 = 595 := by decide +kernel
theorem e_L_law_595 : decode cL_law 595 = .ok (.if_icmp .eq 289, 3) ∧ 595 + 3 = 598 ∧ ((595 : Nat) : Int) + (289) = ((884 : Nat) : Int) := by decide +kernel
theorem e_L_law_598 : decode cL_law 598 = .ok (.iconst 0, 1) ∧ 598 + 1 = 599 := by decide +kernel
theorem e_L_law_599 : decode cL_law 599 = .ok (.ireturn, 1) := by decide +kernel
theorem e_L_law_600 : decode cL_law 600 = .ok (.aload_n 1, 1) ∧ 600 + 1 = 601 := by decide +kernel
theorem e_L_law_601 : decode cL_law 601 = .ok (.aload_n 0, 1) ∧ 601 + 1 = 602 := by decide +kernel
theorem e_L_law_602 : decode cL_law 602 = .ok (.iload_n 3, 1) ∧ 602 + 1 = 603 := by decide +kernel
theorem e_L_law_603 : decode cL_law 603 = .ok (.iconst 1, 1) ∧ 603 + 1 = 604 := by decide +kernel
theorem e_L_law_604 : decode cL_law 604 = .ok (.iadd, 1) ∧ 604 + 1 = 605 := by decide +kernel
theorem e_L_law_605 : decode cL_law 605 = .ok (.iaload, 1) ∧ 605 + 1 = 606 := by decide +kernel
theorem e_L_law_606 : decode cL_law 606 = .ok (.invokevirtual 91, 3) ∧ 606 + 3 = 609 := by decide +kernel
theorem e_L_law_609 : decode cL_law 609 = .ok (.aload_n 2, 1) ∧ 609 + 1 = 610 := by decide +kernel
theorem e_L_law_610 : decode cL_law 610 = .ok (.aload_n 0, 1) ∧ 610 + 1 = 611 := by decide +kernel
theorem e_L_law_611 : decode cL_law 611 = .ok (.iload_n 3, 1) ∧ 611 + 1 = 612 := by decide +kernel
theorem e_L_law_612 : decode cL_law 612 = .ok (.iconst 1, 1) ∧ 612 + 1 = 613 := by decide +kernel
theorem e_L_law_613 : decode cL_law 613 = .ok (.iadd, 1) ∧ 613 + 1 = 614 := by decide +kernel
theorem e_L_law_614 : decode cL_law 614 = .ok (.iaload, 1) ∧ 614 + 1 = 615 := by decide +kernel
theorem e_L_law_615 : decode cL_law 615 = .ok (.invokevirtual 94, 3) ∧ 615 + 3 = 618 := by decide +kernel
theorem e_L_law_618 : decode cL_law 618 = .ok (.if_icmp .eq 266, 3) ∧ 618 + 3 = 621 ∧ ((618 : Nat) : Int) + (266) = ((884 : Nat) : Int) := by decide +kernel
theorem e_L_law_621 : decode cL_law 621 = .ok (.iconst 0, 1) ∧ 621 + 1 = 622 := by decide +kernel
theorem e_L_law_622 : decode cL_law 622 = .ok (.ireturn, 1) := by decide +kernel
theorem e_L_law_623 : decode cL_law 623 = .ok (.aload_n 1, 1) ∧ 623 + 1 = 624 := by decide +kernel
theorem e_L_law_624 : decode cL_law 624 = .ok (.aload_n 0, 1) ∧ 624 + 1 = 625 := by decide +kernel
theorem e_L_law_625 : decode cL_law 625 = .ok (.iload_n 3, 1) ∧ 625 + 1 = 626 := by decide +kernel
theorem e_L_law_626 : decode cL_law 626 = .ok (.iconst 1, 1) ∧ 626 + 1 = 627 := by decide +kernel
theorem e_L_law_627 : decode cL_law 627 = .ok (.iadd, 1) ∧ 627 + 1 = 628 := by decide +kernel
theorem e_L_law_628 : decode cL_law 628 = .ok (.iaload, 1) ∧ 628 + 1 = 629 := by decide +kernel
theorem e_L_law_629 : decode cL_law 629 = .ok (.aload_n 0, 1) ∧ 629 + 1 = 630 := by decide +kernel
theorem e_L_law_630 : decode cL_law 630 = .ok (.iload_n 3, 1) ∧ 630 + 1 = 631 := by decide +kernel
theorem e_L_law_631 : decode cL_law 631 = .ok (.iconst 2, 1) ∧ 631 + 1 = 632 := by decide +kernel
theorem e_L_law_632 : decode cL_law 632 = .ok (.iadd, 1) ∧ 632 + 1 = 633 := by decide +kernel
theorem e_L_law_633 : decode cL_law 633 = .ok (.iaload, 1) ∧ 633 + 1 = 634 := by decide +kernel
theorem e_L_law_634 : decode cL_law 634 = .ok (.invokevirtual 95, 3) ∧ 634 + 3 = 637 := by decide +kernel
theorem e_L_law_637 : decode cL_law 637 = .ok (.aload_n 2, 1) ∧ 637 + 1 = 638 := by decide +kernel
theorem e_L_law_638 : decode cL_law 638 = .ok (.aload_n 0, 1) ∧ 638 + 1 = 639 := by decide +kernel
theorem e_L_law_639 : decode cL_law 639 = .ok (.iload_n 3, 1) ∧ 639 + 1 = 640 := by decide +kernel
theorem e_L_law_640 : decode cL_law 640 = .ok (.iconst 1, 1) ∧ 640 + 1 = 641 := by decide +kernel
theorem e_L_law_641 : decode cL_law 641 = .ok (.iadd, 1) ∧ 641 + 1 = 642 := by decide +kernel
theorem e_L_law_642 : decode cL_law 642 = .ok (.iaload, 1) ∧ 642 + 1 = 643 := by decide +kernel
theorem e_L_law_643 : decode cL_law 643 = .ok (.aload_n 0, 1) ∧ 643 + 1 = 644 := by decide +kernel
theorem e_L_law_644 : decode cL_law 644 = .ok (.iload_n 3, 1) ∧ 644 + 1 = 645 := by decide +kernel
theorem e_L_law_645 : decode cL_law 645 = .ok (.iconst 2, 1) ∧ 645 + 1 = 646 := by decide +kernel
theorem e_L_law_646 : decode cL_law 646 = .ok (.iadd, 1) ∧ 646 + 1 = 647 := by decide +kernel
theorem e_L_law_647 : decode cL_law 647 = .ok (.iaload, 1) ∧ 647 + 1 = 648 := by decide +kernel
theorem e_L_law_648 : decode cL_law 648 = .ok (.invokevirtual 98, 3) ∧ 648 + 3 = 651 := by decide +kernel
theorem e_L_law_651 : decode cL_law 651 = .ok (.if_icmp .eq 233, 3) ∧ 651 + 3 = 654 ∧ ((651 : Nat) : Int) + (233) = ((884 : Nat) : Int) := by decide +kernel
theorem e_L_law_654 : decode cL_law 654 = .ok (.iconst 0, 1) ∧ 654 + 1 = 655 := by decide +kernel
theorem e_L_law_655 : decode cL_law 655 = .ok (.ireturn, 1) := by decide +kernel
theorem e_L_law_656 : decode cL_law 656 = .ok (.aload_n 1, 1) ∧ 656 + 1 = 657 := by decide +kernel
theorem e_L_law_657 : decode cL_law 657 = .ok (.invokevirtual 99, 3) ∧ 657 + 3 = 660 := by decide +kernel
theorem e_L_law_660 : decode cL_law 660 = .ok (.aload_n 2, 1) ∧ 660 + 1 = 661 := by decide +kernel
theorem e_L_law_661 : decode cL_law 661 = .ok (.invokevirtual 102, 3) ∧ 661 + 3 = 664 := by decide +kernel
theorem e_L_law_664 : decode cL_law 664 = .ok (.if_icmp .eq 220, 3) ∧ 664 + 3 = 667 ∧ ((664 : Nat) : Int) + (220) = ((884 : Nat) : Int) := by decide +kernel
theorem e_L_law_667 : decode cL_law 667 = .ok (.iconst 0, 1) ∧ 667 + 1 = 668 := by decide +kernel
theorem e_L_law_668 : decode cL_law 668 = .ok (.ireturn, 1) := by decide +kernel
theorem e_L_law_669 : decode cL_law 669 = .ok (.aload_n 1, 1) ∧ 669 + 1 = 670 := by decide +kernel
theorem e_L_law_670 : decode cL_law 670 = .ok (.aload_n 0, 1) ∧ 670 + 1 = 671 := by decide +kernel
theorem e_L_law_671 : decode cL_law 671 = .ok (.iload_n 3, 1) ∧ 671 + 1 = 672 := by decide +kernel
theorem e_L_law_672 : decode cL_law 672 = .ok (.iconst 1, 1) ∧ 672 + 1 = 673 := by decide +kernel
theorem e_L_law_673 : decode cL_law 673 = .ok (.iadd, 1) ∧ 673 + 1 = 674 := by decide +kernel
theorem e_L_law_674 : decode cL_law 674 = .ok (.iaload, 1) ∧ 674 + 1 = 675 := by decide +kernel
theorem e_L_law_675 : decode cL_law 675 = .ok (.invokevirtual 103, 3) ∧ 675 + 3 = 678 := by decide +kernel
theorem e_L_law_678 : decode cL_law 678 = .ok (.aload_n 2, 1) ∧ 678 + 1 = 679 := by decide +kernel
theorem e_L_law_679 : decode cL_law 679 = .ok (.aload_n 0, 1) ∧ 679 + 1 = 680 := by decide +kernel
theorem e_L_law_680 : decode cL_law 680 = .ok (.iload_n 3, 1) ∧ 680 + 1 = 681 := by decide +kernel
theorem e_L_law_681 : decode cL_law 681 = .ok (.iconst 1, 1) ∧ 681 + 1 = 682 := by decide +kernel
theorem e_L_law_682 : decode cL_law 682 = .ok (.iadd, 1) ∧ 682 + 1 = 683 := by decide +kernel
theorem e_L_law_683 : decode cL_law 683 = .ok (.iaload, 1) ∧ 683 + 1 = 684 := by decide +kernel
theorem e_L_law_684 : decode cL_law 684 = .ok (.invokevirtual 106, 3) ∧ 684 + 3 = 687 := by decide +kernel
theorem e_L_law_687 : decode cL_law 687 = .ok (.if_icmp .eq 197, 3) ∧ 687 + 3 = 690 ∧ ((687 : Nat) : Int) + (197) = ((884 : Nat) : Int) := by decide +kernel
theorem e_L_law_690 : decode cL_law 690 = .ok (.iconst 0, 1) ∧ 690 + 1 = 691 := by decide +kernel
theorem e_L_law_691 : decode cL_law 691 = .ok (.ireturn, 1) := by decide +kernel
theorem e_L_law_692 : decode cL_law 692 = .ok (.aload_n 1, 1) ∧ 692 + 1 = 693 := by decide +kernel
theorem e_L_law_693 : decode cL_law 693 = .ok (.aload_n 0, 1) ∧ 693 + 1 = 694 := by decide +kernel
theorem e_L_law_694 : decode cL_law 694 = .ok (.iload_n 3, 1) ∧ 694 + 1 = 695 := by decide +kernel
theorem e_L_law_695 : decode cL_law 695 = .ok (.iconst 1, 1) ∧ 695 + 1 = 696 := by decide +kernel
theorem e_L_law_696 : decode cL_law 696 = .ok (.iadd, 1) ∧ 696 + 1 = 697 := by decide +kernel
theorem e_L_law_697 : decode cL_law 697 = .ok (.iaload, 1) ∧ 697 + 1 = 698 := by decide +kernel
theorem e_L_law_698 : decode cL_law 698 = .ok (.aload_n 0, 1) ∧ 698 + 1 = 699 := by decide +kernel
theorem e_L_law_699 : decode cL_law 699 = .ok (.iload_n 3, 1) ∧ 699 + 1 = 700 := by decide +kernel
theorem e_L_law_700 : decode cL_law 700 = .ok (.iconst 2, 1) ∧ 700 + 1 = 701 := by decide +kernel
theorem e_L_law_701 : decode cL_law 701 = .ok (.iadd, 1) ∧ 701 + 1 = 702 := by decide +kernel
theorem e_L_law_702 : decode cL_law 702 = .ok (.iaload, 1) ∧ 702 + 1 = 703 := by decide +kernel
theorem e_L_law_703 : decode cL_law 703 = .ok (.aload_n 0, 1) ∧ 703 + 1 = 704 := by decide +kernel
theorem e_L_law_704 : decode cL_law 704 = .ok (.iload_n 3, 1) ∧ 704 + 1 = 705 := by decide +kernel
theorem e_L_law_705 : decode cL_law 705 = .ok (.iconst 3, 1) ∧ 705 + 1 = 706 := by decide +kernel
theorem e_L_law_706 : decode cL_law 706 = .ok (.iadd, 1) ∧ 706 + 1 = 707 := by decide +kernel
theorem e_L_law_707 : decode cL_law 707 = .ok (.iaload, 1) ∧ 707 + 1 = 708 := by decide +kernel
theorem e_L_law_708 : decode cL_law 708 = .ok (.ifCond .eq 7, 3) ∧ 708 + 3 = 711 ∧ ((708 : Nat) : Int) + (7) = ((715 : Nat) : Int) := by decide +kernel
theorem e_L_law_711 : decode cL_law 711 = .ok (.iconst 1, 1) ∧ 711 + 1 = 712 := by decide +kernel
theorem e_L_law_712 : decode cL_law 712 = .ok (.goto 4, 3) ∧ 712 + 3 = 715 ∧ ((712 : Nat) : Int) + (4) = ((716 : Nat) : Int) := by decide +kernel
theorem e_L_law_715 : decode cL_law 715 = .ok (.iconst 0, 1) ∧ 715 + 1 = 716 := by decide +kernel
theorem e_L_law_716 : decode cL_law 716 = .ok (.invokevirtual 107, 3) ∧ 716 + 3 = 719 := by decide +kernel
theorem e_L_law_719 : decode cL_law 719 = .ok (.aload_n 2, 1) ∧ 719 + 1 = 720 := by decide +kernel
theorem e_L_law_720 : decode cL_law 720 = .ok (.aload_n 0, 1) ∧ 720 + 1 = 721 := by decide +kernel
theorem e_L_law_721 : decode cL_law 721 = .ok (.iload_n 3, 1) ∧ 721 + 1 = 722 := by decide +kernel
theorem e_L_law_722 : decode cL_law 722 = .ok (.iconst 1, 1) ∧ 722 + 1 = 723 := by decide +kernel
theorem e_L_law_723 : decode cL_law 723 = .ok (.iadd, 1) ∧ 723 + 1 = 724 := by decide +kernel
theorem e_L_law_724 : decode cL_law 724 = .ok (.iaload, 1) ∧ 724 + 1 = 725 := by decide +kernel
theorem e_L_law_725 : decode cL_law 725 = .ok (.aload_n 0, 1) ∧ 725 + 1 = 726 := by decide +kernel
theorem e_L_law_726 : decode cL_law 726 = .ok (.iload_n 3, 1) ∧ 726 + 1 = 727 := by decide +kernel
theorem e_L_law_727 : decode cL_law 727 = .ok (.iconst 2, 1) ∧ 727 + 1 = 728 := by decide +kernel
theorem e_L_law_728 : decode cL_law 728 = .ok (.iadd, 1) ∧ 728 + 1 = 729 := by decide +kernel
theorem e_L_law_729 : decode cL_law 729 = .ok (.iaload, 1) ∧ 729 + 1 = 730 := by decide +kernel
theorem e_L_law_730 : decode cL_law 730 = .ok (.aload_n 0, 1) ∧ 730 + 1 = 731 := by decide +kernel
theorem e_L_law_731 : decode cL_law 731 = .ok (.iload_n 3, 1) ∧ 731 + 1 = 732 := by decide +kernel
theorem e_L_law_732 : decode cL_law 732 = .ok (.iconst 3, 1) ∧ 732 + 1 = 733 := by decide +kernel
theorem e_L_law_733 : decode cL_law 733 = .ok (.iadd, 1) ∧ 733 + 1 = 734 := by decide +kernel
theorem e_L_law_734 : decode cL_law 734 = .ok (.iaload, 1) ∧ 734 + 1 = 735 := by decide +kernel
theorem e_L_law_735 : decode cL_law 735 = .ok (.ifCond .eq 7, 3) ∧ 735 + 3 = 738 ∧ ((735 : Nat) : Int) + (7) = ((742 : Nat) : Int) := by decide +kernel
theorem e_L_law_738 : decode cL_law 738 = .ok (.iconst 1, 1) ∧ 738 + 1 = 739 := by decide +kernel
theorem e_L_law_739 : decode cL_law 739 = .ok (.goto 4, 3) ∧ 739 + 3 = 742 ∧ ((739 : Nat) : Int) + (4) = ((743 : Nat) : Int) := by decide +kernel
theorem e_L_law_742 : decode cL_law 742 = .ok (.iconst 0, 1) ∧ 742 + 1 = 743 := by decide +kernel
theorem e_L_law_743 : decode cL_law 743 = .ok (.invokevirtual 111, 3) ∧ 743 + 3 = 746 := by decide +kernel
theorem e_L_law_746 : decode cL_law 746 = .ok (.if_icmp .eq 138, 3) ∧ 746 + 3 = 749 ∧ ((746 : Nat) : Int) + (138) = ((884 : Nat) : Int) := by decide +kernel
theorem e_L_law_749 : decode cL_law 749 = .ok (.iconst 0, 1) ∧ 749 + 1 = 750 := by decide +kernel
theorem e_L_law_750 : decode cL_law 750 = .ok (.ireturn, 1) := by decide +kernel
theorem e_L_law_751 : decode cL_law 751 = .ok (.aload_n 1, 1) ∧ 751 + 1 = 752 := by decide +kernel
theorem e_L_law_752 : decode cL_law 752 = .ok (.aload_n 0, 1) ∧ 752 + 1 = 753 := by decide +kernel
theorem e_L_law_753 : decode cL_law 753 = .ok (.iload_n 3, 1) ∧ 753 + 1 = 754 := by decide +kernel
theorem e_L_law_754 : decode cL_law 754 = .ok (.iconst 1, 1) ∧ 754 + 1 = 755 := by decide +kernel
theorem e_L_law_755 : decode cL_law 755 = .ok (.iadd, 1) ∧ 755 + 1 = 756 := by decide +kernel
theorem e_L_law_756 : decode cL_law 756 = .ok (.iaload, 1) ∧ 756 + 1 = 757 := by decide +kernel
theorem e_L_law_757 : decode cL_law 757 = .ok (.i2l, 1) ∧ 757 + 1 = 758 := by decide +kernel
theorem e_L_law_758 : decode cL_law 758 = .ok (.bipush 32, 2) ∧ 758 + 2 = 760 := by decide +kernel
theorem e_L_law_760 : decode cL_law 760 = .ok (.lshl, 1) ∧ 760 + 1 = 761 := by decide +kernel
theorem e_L_law_761 : decode cL_law 761 = .ok (.aload_n 0, 1) ∧ 761 + 1 = 762 := by decide +kernel
theorem e_L_law_762 : decode cL_law 762 = .ok (.iload_n 3, 1) ∧ 762 + 1 = 763 := by decide +kernel
theorem e_L_law_763 : decode cL_law 763 = .ok (.iconst 2, 1) ∧ 763 + 1 = 764 := by decide +kernel
theorem e_L_law_764 : decode cL_law 764 = .ok (.iadd, 1) ∧ 764 + 1 = 765 := by decide +kernel
theorem e_L_law_765 : decode cL_law 765 = .ok (.iaload, 1) ∧ 765 + 1 = 766 := by decide +kernel
theorem e_L_law_766 : decode cL_law 766 = .ok (.i2l, 1) ∧ 766 + 1 = 767 := by decide +kernel
theorem e_L_law_767 : decode cL_law 767 = .ok (.ldc2_w 13, 3) ∧ 767 + 3 = 770 := by decide +kernel
theorem e_L_law_770 : decode cL_law 770 = .ok (.land, 1) ∧ 770 + 1 = 771 := by decide +kernel
theorem e_L_law_771 : decode cL_law 771 = .ok (.lor, 1) ∧ 771 + 1 = 772 := by decide +kernel
theorem e_L_law_772 : decode cL_law 772 = .ok (.invokevirtual 112, 3) ∧ 772 + 3 = 775 := by decide +kernel
theorem e_L_law_775 : decode cL_law 775 = .ok (.aload_n 2, 1) ∧ 775 + 1 = 776 := by decide +kernel
theorem e_L_law_776 : decode cL_law 776 = .ok (.aload_n 0, 1) ∧ 776 + 1 = 777 := by decide +kernel
theorem e_L_law_777 : decode cL_law 777 = .ok (.iload_n 3, 1) ∧ 777 + 1 = 778 := by decide +kernel
theorem e_L_law_778 : decode cL_law 778 = .ok (.iconst 1, 1) ∧ 778 + 1 = 779 := by decide +kernel
theorem e_L_law_779 : decode cL_law 779 = .ok (.iadd, 1) ∧ 779 + 1 = 780 := by decide +kernel
theorem e_L_law_780 : decode cL_law 780 = .ok (.iaload, 1) ∧ 780 + 1 = 781 := by decide +kernel
theorem e_L_law_781 : decode cL_law 781 = .ok (.i2l, 1) ∧ 781 + 1 = 782 := by decide +kernel
theorem e_L_law_782 : decode cL_law 782 = .ok (.bipush 32, 2) ∧ 782 + 2 = 784 := by decide +kernel
theorem e_L_law_784 : decode cL_law 784 = .ok (.lshl, 1) ∧ 784 + 1 = 785 := by decide +kernel
theorem e_L_law_785 : decode cL_law 785 = .ok (.aload_n 0, 1) ∧ 785 + 1 = 786 := by decide +kernel
theorem e_L_law_786 : decode cL_law 786 = .ok (.iload_n 3, 1) ∧ 786 + 1 = 787 := by decide +kernel
theorem e_L_law_787 : decode cL_law 787 = .ok (.iconst 2, 1) ∧ 787 + 1 = 788 := by decide +kernel
theorem e_L_law_788 : decode cL_law 788 = .ok (.iadd, 1) ∧ 788 + 1 = 789 := by decide +kernel
theorem e_L_law_789 : decode cL_law 789 = .ok (.iaload, 1) ∧ 789 + 1 = 790 := by decide +kernel
theorem e_L_law_790 : decode cL_law 790 = .ok (.i2l, 1) ∧ 790 + 1 = 791 := by decide +kernel
theorem e_L_law_791 : decode cL_law 791 = .ok (.ldc2_w 13, 3) ∧ 791 + 3 = 794 := by decide +kernel
theorem e_L_law_794 : decode cL_law 794 = .ok (.land, 1) ∧ 794 + 1 = 795 := by decide +kernel
theorem e_L_law_795 : decode cL_law 795 = .ok (.lor, 1) ∧ 795 + 1 = 796 := by decide +kernel
theorem e_L_law_796 : decode cL_law 796 = .ok (.invokevirtual 116, 3) ∧ 796 + 3 = 799 := by decide +kernel
theorem e_L_law_799 : decode cL_law 799 = .ok (.lcmp, 1) ∧ 799 + 1 = 800 := by decide +kernel
theorem e_L_law_800 : decode cL_law 800 = .ok (.ifCond .eq 84, 3) ∧ 800 + 3 = 803 ∧ ((800 : Nat) : Int) + (84) = ((884 : Nat) : Int) := by decide +kernel
theorem e_L_law_803 : decode cL_law 803 = .ok (.iconst 0, 1) ∧ 803 + 1 = 804 := by decide +kernel
theorem e_L_law_804 : decode cL_law 804 = .ok (.ireturn, 1) := by decide +kernel
theorem e_L_law_805 : decode cL_law 805 = .ok (.aload_n 1, 1) ∧ 805 + 1 = 806 := by decide +kernel
theorem e_L_law_806 : decode cL_law 806 = .ok (.aload_n 0, 1) ∧ 806 + 1 = 807 := by decide +kernel
theorem e_L_law_807 : decode cL_law 807 = .ok (.iload_n 3, 1) ∧ 807 + 1 = 808 := by decide +kernel
theorem e_L_law_808 : decode cL_law 808 = .ok (.iconst 1, 1) ∧ 808 + 1 = 809 := by decide +kernel
theorem e_L_law_809 : decode cL_law 809 = .ok (.iadd, 1) ∧ 809 + 1 = 810 := by decide +kernel
theorem e_L_law_810 : decode cL_law 810 = .ok (.iaload, 1) ∧ 810 + 1 = 811 := by decide +kernel
theorem e_L_law_811 : decode cL_law 811 = .ok (.aload_n 0, 1) ∧ 811 + 1 = 812 := by decide +kernel
theorem e_L_law_812 : decode cL_law 812 = .ok (.iload_n 3, 1) ∧ 812 + 1 = 813 := by decide +kernel
theorem e_L_law_813 : decode cL_law 813 = .ok (.iconst 2, 1) ∧ 813 + 1 = 814 := by decide +kernel
theorem e_L_law_814 : decode cL_law 814 = .ok (.iadd, 1) ∧ 814 + 1 = 815 := by decide +kernel
theorem e_L_law_815 : decode cL_law 815 = .ok (.iaload, 1) ∧ 815 + 1 = 816 := by decide +kernel
theorem e_L_law_816 : decode cL_law 816 = .ok (.invokevirtual 117, 3) ∧ 816 + 3 = 819 := by decide +kernel
theorem e_L_law_819 : decode cL_law 819 = .ok (.aload_n 2, 1) ∧ 819 + 1 = 820 := by decide +kernel
theorem e_L_law_820 : decode cL_law 820 = .ok (.aload_n 0, 1) ∧ 820 + 1 = 821 := by decide +kernel
theorem e_L_law_821 : decode cL_law 821 = .ok (.iload_n 3, 1) ∧ 821 + 1 = 822 := by decide +kernel
theorem e_L_law_822 : decode cL_law 822 = .ok (.iconst 1, 1) ∧ 822 + 1 = 823 := by decide +kernel
theorem e_L_law_823 : decode cL_law 823 = .ok (.iadd, 1) ∧ 823 + 1 = 824 := by decide +kernel
theorem e_L_law_824 : decode cL_law 824 = .ok (.iaload, 1) ∧ 824 + 1 = 825 := by decide +kernel
theorem e_L_law_825 : decode cL_law 825 = .ok (.aload_n 0, 1) ∧ 825 + 1 = 826 := by decide +kernel
theorem e_L_law_826 : decode cL_law 826 = .ok (.iload_n 3, 1) ∧ 826 + 1 = 827 := by decide +kernel
theorem e_L_law_827 : decode cL_law 827 = .ok (.iconst 2, 1) ∧ 827 + 1 = 828 := by decide +kernel
theorem e_L_law_828 : decode cL_law 828 = .ok (.iadd, 1) ∧ 828 + 1 = 829 := by decide +kernel
theorem e_L_law_829 : decode cL_law 829 = .ok (.iaload, 1) ∧ 829 + 1 = 830 := by decide +kernel
theorem e_L_law_830 : decode cL_law 830 = .ok (.invokevirtual 120, 3) ∧ 830 + 3 = 833 := by decide +kernel
theorem e_L_law_833 : decode cL_law 833 = .ok (.if_icmp .eq 51, 3) ∧ 833 + 3 = 836 ∧ ((833 : Nat) : Int) + (51) = ((884 : Nat) : Int) := by decide +kernel
theorem e_L_law_836 : decode cL_law 836 = .ok (.iconst 0, 1) ∧ 836 + 1 = 837 := by decide +kernel
theorem e_L_law_837 : decode cL_law 837 = .ok (.ireturn, 1) := by decide +kernel
theorem e_L_law_838 : decode cL_law 838 = .ok (.aload_n 1, 1) ∧ 838 + 1 = 839 := by decide +kernel
theorem e_L_law_839 : decode cL_law 839 = .ok (.aload_n 0, 1) ∧ 839 + 1 = 840 := by decide +kernel
theorem e_L_law_840 : decode cL_law 840 = .ok (.iload_n 3, 1) ∧ 840 + 1 = 841 := by decide +kernel
theorem e_L_law_841 : decode cL_law 841 = .ok (.iconst 1, 1) ∧ 841 + 1 = 842 := by decide +kernel
theorem e_L_law_842 : decode cL_law 842 = .ok (.iadd, 1) ∧ 842 + 1 = 843 := by decide +kernel
theorem e_L_law_843 : decode cL_law 843 = .ok (.iaload, 1) ∧ 843 + 1 = 844 := by decide +kernel
theorem e_L_law_844 : decode cL_law 844 = .ok (.invokevirtual 121, 3) ∧ 844 + 3 = 847 := by decide +kernel
theorem e_L_law_847 : decode cL_law 847 = .ok (.aload_n 2, 1) ∧ 847 + 1 = 848 := by decide +kernel
theorem e_L_law_848 : decode cL_law 848 = .ok (.aload_n 0, 1) ∧ 848 + 1 = 849 := by decide +kernel
theorem e_L_law_849 : decode cL_law 849 = .ok (.iload_n 3, 1) ∧ 849 + 1 = 850 := by decide +kernel
theorem e_L_law_850 : decode cL_law 850 = .ok (.iconst 1, 1) ∧ 850 + 1 = 851 := by decide +kernel
theorem e_L_law_851 : decode cL_law 851 = .ok (.iadd, 1) ∧ 851 + 1 = 852 := by decide +kernel
theorem e_L_law_852 : decode cL_law 852 = .ok (.iaload, 1) ∧ 852 + 1 = 853 := by decide +kernel
theorem e_L_law_853 : decode cL_law 853 = .ok (.invokevirtual 124, 3) ∧ 853 + 3 = 856 := by decide +kernel
theorem e_L_law_856 : decode cL_law 856 = .ok (.if_icmp .eq 28, 3) ∧ 856 + 3 = 859 ∧ ((856 : Nat) : Int) + (28) = ((884 : Nat) : Int) := by decide +kernel
theorem e_L_law_859 : decode cL_law 859 = .ok (.iconst 0, 1) ∧ 859 + 1 = 860 := by decide +kernel
theorem e_L_law_860 : decode cL_law 860 = .ok (.ireturn, 1) := by decide +kernel
theorem e_L_law_861 : decode cL_law 861 = .ok (.aload_n 1, 1) ∧ 861 + 1 = 862 := by decide +kernel
theorem e_L_law_862 : decode cL_law 862 = .ok (.aload_n 0, 1) ∧ 862 + 1 = 863 := by decide +kernel
theorem e_L_law_863 : decode cL_law 863 = .ok (.iload_n 3, 1) ∧ 863 + 1 = 864 := by decide +kernel
theorem e_L_law_864 : decode cL_law 864 = .ok (.iconst 1, 1) ∧ 864 + 1 = 865 := by decide +kernel
theorem e_L_law_865 : decode cL_law 865 = .ok (.iadd, 1) ∧ 865 + 1 = 866 := by decide +kernel
theorem e_L_law_866 : decode cL_law 866 = .ok (.iaload, 1) ∧ 866 + 1 = 867 := by decide +kernel
theorem e_L_law_867 : decode cL_law 867 = .ok (.invokevirtual 125, 3) ∧ 867 + 3 = 870 := by decide +kernel
theorem e_L_law_870 : decode cL_law 870 = .ok (.aload_n 2, 1) ∧ 870 + 1 = 871 := by decide +kernel
theorem e_L_law_871 : decode cL_law 871 = .ok (.aload_n 0, 1) ∧ 871 + 1 = 872 := by decide +kernel
theorem e_L_law_872 : decode cL_law 872 = .ok (.iload_n 3, 1) ∧ 872 + 1 = 873 := by decide +kernel
theorem e_L_law_873 : decode cL_law 873 = .ok (.iconst 1, 1) ∧ 873 + 1 = 874 := by decide +kernel
theorem e_L_law_874 : decode cL_law 874 = .ok (.iadd, 1) ∧ 874 + 1 = 875 := by decide +kernel
theorem e_L_law_875 : decode cL_law 875 = .ok (.iaload, 1) ∧ 875 + 1 = 876 := by decide +kernel
theorem e_L_law_876 : decode cL_law 876 = .ok (.invokevirtual 128, 3) ∧ 876 + 3 = 879 := by decide +kernel
theorem e_L_law_879 : decode cL_law 879 = .ok (.if_icmp .eq 5, 3) ∧ 879 + 3 = 882 ∧ ((879 : Nat) : Int) + (5) = ((884 : Nat) : Int) := by decide +kernel
theorem e_L_law_882 : decode cL_law 882 = .ok (.iconst 0, 1) ∧ 882 + 1 = 883 := by decide +kernel
theorem e_L_law_883 : decode cL_law 883 = .ok (.ireturn, 1) := by decide +kernel
theorem e_L_law_884 : decode cL_law 884 = .ok (.iinc 3 4, 3) ∧ 884 + 3 = 887 := by decide +kernel
theorem e_L_law_887 : decode cL_law 887 = .ok (.goto (-869), 3) ∧ 887 + 3 = 890 ∧ ((887 : Nat) : Int) + (-869) = ((18 : Nat) : Int) := by decide +kernel
theorem e_L_law_890 : decode cL_law 890 = .ok (.iconst 1, 1) ∧ 890 + 1 = 891 := by decide +kernel
theorem e_L_law_891 : decode cL_law 891 = .ok (.ireturn, 1) := by decide +kernel
end
section
/-! THE MACHINE, TOLD SIMPLY. A memory of typed rows over the cells from b0 on: T tells each cell's tag and length (0..3: an object of that class, 4: int[], 5: boolean[], 6: Mine[]),
R, L, I what references, longs and ints it holds. xV: from this place of this method, with these locals, this stack and this memory, the method comes to its end with the outcome o. -/
abbrev xG : Type := va_G × (ClassId × ClassId × ClassId) × Nat × Nat × (Nat × Nat × (Nat → Int32))
abbrev xT : Type := List (Nat × Nat)
abbrev xR : Type := Nat → Nat → Option Nat
abbrev xL : Type := Nat → Nat → Int64
abbrev xI : Type := Nat → Nat → Int32
abbrev xY : Type := MethodName × ByteArray × Nat × Option FieldType × Nat × Nat
abbrev xO : Type := xT × (Option Value → xR → xL → xI → Prop)
def xfk (ci k : Nat) : Nat := match ci with
  | 0 => if k < 5 then 2 else 0
  | 1 => if k = 0 then 2 else 0
  | 2 => ([2, 0, 2, 2, 2, 2, 2, 0, 2, 0, 2, 2, 0, 1] : List Nat).getD k 0
  | _ => ([0, 2, 0, 0, 0, 0, 2, 2, 0, 0, 0, 0, 2, 2, 1, 2, 0, 2, 2, 0, 2, 2, 2, 0] : List Nat).getD k 0
def xnf (ci : Nat) : Nat := match ci with | 0 => 12 | 1 => 4 | 2 => 14 | _ => 24
def xcn (ci : Nat) : String := match ci with | 0 => RX0 | 1 => RX1 | 2 => RX2 | _ => RX3
def xct (ci : Nat) : u_T := match ci with | 0 => TX0 | 1 => TX1 | 2 => TX2 | _ => TX3
def xcy (ci : Nat) : Nat → FieldType := match ci with | 0 => tyX0 | 1 => tyX1 | 2 => tyX2 | _ => tyX3
def xfv (ci k : Nat) (r : Nat → Option Nat) (l : Nat → Int64) (i : Nat → Int32) : Value := match xfk ci k with
  | 0 => .int (i k)
  | 1 => .long (l k)
  | _ => va_rf (r k)
def xmk (cs : ClassId × ClassId × ClassId) (t : Nat × Nat) (r : Nat → Option Nat) (l : Nat → Int64) (i : Nat → Int32) : va_E := match t.1 with
  | 4 => .inl (cs.1, t.2, .inl i)
  | 5 => .inl (cs.2.1, t.2, .inl i)
  | 6 => .inl (cs.2.2, t.2, .inr (.inr (.inr (.inr r))))
  | ci => if ci < 4 then .inr (ci, (List.range (xnf ci)).map (fun k => xfv ci k r l i)) else .inr (99, [])
def xSh (G : xG) (T : xT) (a : Nat) : Nat × Nat := if a < G.2.2.1 then (99, 0) else (T[a - G.2.2.1]?).getD (99, 0)
def xE (G : xG) (T : xT) (R : xR) (L : xL) (I : xI) (a : Nat) : va_E := xmk G.2.1 (xSh G T a) (R a) (L a) (I a)
def xads (G : xG) (T : xT) : List Nat := List.range' G.2.2.1 T.length
def xRp (G : xG) (T : xT) (R : xR) (L : xL) (I : xI) (H : Heap) : Prop := G.2.2.1 + T.length ≤ H.size ∧ va_P G.1 vwCl (va_pl (xads G T) (xE G T R L I)) H
def xA (G : xG) : Nat → Prop := fun q => G.2.2.1 ≤ q
def xnear (j : Nat) : Int32 := ([18, 37, 74, 132, 289, 594, 1188, 2120, 528, 1312, 2624, 1152] : List Int32).getD j 0
def xtys (G : xG) : List (ClassId × FieldType) := [(G.2.1.1, .int), (G.2.1.2.1, .boolean), (G.2.1.2.2, .object RX0)]
def xCx (G : xG) (s : State) : Prop := G.2.2.1 ≤ s.heap.size ∧ va_K G.1 vwCl (xtys G) s ∧ va_Z RX2 "NEAR" "[I" (.ref G.2.2.2.1) (xA G) s s.heap ∧ va_T .int G.2.2.2.1 12 (fun j => .int (xnear j)) (xA G) s s.heap ∧
  va_T .int G.2.2.2.2.1 G.2.2.2.2.2.1 (fun j => .int (G.2.2.2.2.2.2 j)) (xA G) s s.heap ∧ (∀ w ∈ xnest, va_Nw w s) ∧ va_AO RX0 s
def xsz (t : Nat × Nat) : Nat := if t.1 < 4 then xnf t.1 else t.2
def xZ (T : xT) : Nat := (T.map xsz).sum
def xle (A B : xT) : Prop := A.length ≤ B.length ∧ xZ A ≤ xZ B
theorem xle_r (A : xT) : xle A A := ⟨Nat.le_refl _, Nat.le_refl _⟩
def xws (Y : xY) : List Cond := .code Y.1 Y.2.1 Y.2.2.1 Y.2.2.2.1 :: xW
def xe : Nat → List (Option Value) → List (Nat × Value)
  | _, [] => []
  | i, some v :: t => (i, v) :: xe (i + 1) t
  | i, none :: t => xe (i + 1) t
/-- an answer of the kind that the method has -/
def xvok (Y : xY) (v : Option Value) : Prop := (Y.2.2.2.1 = none ∧ v = none) ∨ (Y.2.2.2.1 = some .int ∧ ∃ r, v = some (.int r)) ∨ (Y.2.2.2.1 = some .boolean ∧ ∃ r, v = some (.int r) ∧ narrow .boolean (.int r) = .int r) ∨ (Y.2.2.2.1 = some .long ∧ ∃ r, v = some (.long r))
def xret : Option FieldType → Instr
  | none => .return_
  | some .long => .lreturn
  | some _ => .ireturn
def xFix (G : xG) (Y : xY) (Tb : xT) (p : Program) (s : State) (m : MethodId) (args : Array Value) (meth : Method) (c : Code) : Prop :=
  p.tables.exec = Jvm.exec ∧ c.code = Y.2.1 ∧ c.maxLocals = Y.2.2.1 ∧ s.vm.findClass Y.1.cls = some m.cls ∧ (∀ w ∈ xW, w.before args s = true) ∧ (Y.1.name = "<init>" → meth.name = "<init>") ∧ s.heap.size = G.2.2.1 + Tb.length ∧ xCx G s
def xEnd (G : xG) (Y : xY) (p : Program) (l : Launch) (e : Env) (Rm : Room) (s : State) (m : MethodId) (args : Array Value) (below : List Frame) (meth : Method) (c : Code) (Tb : xT) (o : xO) (Q : State → Prop) : Prop :=
  ∀ (H : Heap) (locs : List Loc) (ls : Array Slot) (pc : Nat) (v : Option Value) (R : xR) (L : xL) (I : xI), decode Y.2.1 pc = .ok (xret Y.2.2.2.1, 1) → xvok Y v → o.2 v R L I → xRp G o.1 R L I H → va_S (xA G) s.heap H locs →
    W p l e Rm s m args below meth c H locs (o.1.length - Tb.length) (xZ o.1 - xZ Tb) Q (F0 m pc ls v.toList)
def xV (G : xG) (Y : xY) (Tb : xT) (o : xO) (pc : Nat) (xl : List (Option Value)) (st : List Value) (T : xT) (R : xR) (L : xL) (I : xI) : Prop :=
  ∀ (p : Program) (l : Launch) (e : Env) (Rm : Room) (s : State) (m : MethodId) (args : Array Value) (below : List Frame) (meth : Method) (c : Code) (H : Heap) (locs : List Loc) (Q : State → Prop) (ls : Array Slot),
    xFix G Y Tb p s m args meth c → (Rm.frames = Y.2.2.2.2.1 ∧ Rm.locals = Y.2.2.2.2.2 ∧ o.1.length - Tb.length ≤ Rm.cells ∧ xZ o.1 - xZ Tb ≤ Rm.slots) →
    lv_has ls Y.2.2.1 (xe 0 xl) → xl.length = Y.2.2.1 → xRp G T R L I H → va_S (xA G) s.heap H locs → xEnd G Y p l e Rm s m args below meth c Tb o Q →
    W p l e Rm s m args below meth c H locs (T.length - Tb.length) (xZ T - xZ Tb) Q (F0 m pc ls st)
def xQ (o : xO) (G : xG) : Array Value → State → Outcome → State → Prop := fun _ st oc t => (∃ (v : Option Value) (R : xR) (L : xL) (I : xI), oc = .returned v ∧ o.2 v R L I ∧ xRp G o.1 R L I t.heap) ∧ va_F (xA G) st t
/-- a method's contract: called with these arguments over this memory it returns with an outcome of o -/
def xCon (G : xG) (Y : xY) (av : List Value) (T : xT) (R : xR) (L : xL) (I : xI) (o : xO) : Prop :=
  xle T o.1 ∧ ∀ l : Launch, Met l Y.1 (xws Y) { frames := Y.2.2.2.2.1, cells := o.1.length - T.length, slots := xZ o.1 - xZ T, locals := Y.2.2.2.2.2 }
    (va_Pc av (fun U => U.heap.size = G.2.2.1 + T.length ∧ xCx G U ∧ xRp G T R L I U.heap)) (xQ o G) (o.1.length - T.length) (xZ o.1 - xZ T) (xA G)
/-- one outcome alone -/
def xD (v : Option Value) (T : xT) (R : xR) (L : xL) (I : xI) : xO := (T, fun v2 R2 L2 I2 => v2 = v ∧ R2 = R ∧ L2 = L ∧ I2 = I)
-- ===== small facts =====
theorem xcl {ci : Nat} (h : ci < 4) : vwCl[ci]? = some (xcn ci, xct ci, xnf ci) := by
  match ci, h with
  | 0, _ => rfl
  | 1, _ => rfl
  | 2, _ => rfl
  | 3, _ => rfl
theorem xcy_ok {ci : Nat} (h : ci < 4) : ∀ k, k < xnf ci → parseFieldDescriptor ((xct ci) k).2.2.1 = some ((xcy ci) k) := by
  match ci, h with
  | 0, _ => exact tyX0_ok
  | 1, _ => exact tyX1_ok
  | 2, _ => exact tyX2_ok
  | 3, _ => exact tyX3_ok
theorem xcy_nm {ci : Nat} (h : ci < 4) : ∀ a, a < xnf ci → ∀ b, b < xnf ci → a ≠ b → ((xct ci) a).2.1 ≠ ((xct ci) b).2.1 := by
  match ci, h with
  | 0, _ => exact nmX0
  | 1, _ => exact nmX1
  | 2, _ => exact nmX2
  | 3, _ => exact nmX3
theorem xmk_obj {cs : ClassId × ClassId × ClassId} {t : Nat × Nat} {r : Nat → Option Nat} {l : Nat → Int64} {i : Nat → Int32} {ci : Nat} (h : t.1 = ci) (h4 : ci < 4) : xmk cs t r l i = .inr (ci, (List.range (xnf ci)).map (fun k => xfv ci k r l i)) := by
  subst h
  obtain ⟨a, b⟩ := t
  match a, h4 with
  | 0, _ => rfl
  | 1, _ => rfl
  | 2, _ => rfl
  | 3, _ => rfl
theorem xmk_hi {cs : ClassId × ClassId × ClassId} {n t2 : Nat} {r : Nat → Option Nat} {l : Nat → Int64} {i : Nat → Int32} : xmk cs (n + 7, t2) r l i = .inr (99, []) := by
  show (if n + 7 < 4 then (Sum.inr (n + 7, (List.range (xnf (n + 7))).map (fun k => xfv (n + 7) k r l i)) : va_E) else .inr (99, [])) = .inr (99, [])
  rw [if_neg (by omega)]
theorem xsh_in {G : xG} {T : xT} {a : Nat} (h : (xSh G T a).1 < 99) : a ∈ xads G T := by
  unfold xSh at h
  split at h
  · exact absurd h (by decide)
  · rename_i hb
    by_cases hl : a - G.2.2.1 < T.length
    · exact List.mem_range'_1.mpr ⟨by omega, by omega⟩
    · rw [List.getElem?_eq_none (by omega)] at h
      exact absurd h (by decide)
theorem xads_at {G : xG} {T : xT} {f : Nat → va_E} {k : Nat} {q : Nat × va_E} (h : (va_pl (xads G T) f)[k]? = some q) : q.1 = G.2.2.1 + k := by
  simp only [va_pl, xads, List.getElem?_map, Option.map_eq_some_iff] at h
  obtain ⟨a, ha, rfl⟩ := h
  obtain ⟨h1, h2⟩ := List.getElem?_eq_some_iff.mp ha
  rw [← h2, List.getElem_range']
  simp
theorem xD_ok (G : xG) (T : xT) (f : Nat → va_E) : va_D (xA G) (va_pl (xads G T) f) := by
  refine ⟨fun i j p q hi hj hpq => ?_, fun k q hk => ?_⟩
  · have h1 := xads_at hi
    have h2 := xads_at hj
    omega
  · have h1 := xads_at hk
    show G.2.2.1 ≤ q.1
    omega
theorem xpl_get {L : List Nat} {f : Nat → va_E} {a : Nat} (h : a ∈ L) : ∃ k : Nat, (va_pl L f)[k]? = some (a, f a) := by
  apply List.getElem?_of_mem
  exact List.mem_map.mpr ⟨a, h, rfl⟩
theorem xpl_set {A : Nat → Prop} {L : List Nat} {f : Nat → va_E} {a k : Nat} {e : va_E} (hD : va_D A (va_pl L f)) (h : a ∈ L) (hk : (va_pl L f)[k]? = some (a, f a)) : (va_pl L f).set k (a, e) = va_pl L (va_up f a e) :=
  va_pl_set (X := []) hD h hk
theorem xe_mem : ∀ (xl : List (Option Value)) (k : Nat) (q : Nat × Value), q ∈ xe k xl ↔ ∃ j, q.1 = k + j ∧ xl[j]? = some (some q.2) := by
  intro xl
  induction xl with
  | nil => intro k q; simp [xe]
  | cons a t ih =>
    intro k q
    cases a with
    | none =>
      rw [show xe k (none :: t) = xe (k + 1) t from rfl, ih]
      constructor
      · rintro ⟨j, h1, h2⟩
        exact ⟨j + 1, by omega, by simpa using h2⟩
      · rintro ⟨j, h1, h2⟩
        cases j with
        | zero => simp at h2
        | succ j => exact ⟨j, by omega, by simpa using h2⟩
    | some v =>
      rw [show xe k (some v :: t) = (k, v) :: xe (k + 1) t from rfl, List.mem_cons, ih]
      constructor
      · rintro (rfl | ⟨j, h1, h2⟩)
        · exact ⟨0, by simp, by simp⟩
        · exact ⟨j + 1, by omega, by simpa using h2⟩
      · rintro ⟨j, h1, h2⟩
        cases j with
        | zero =>
          left
          simp at h2
          obtain ⟨a, b⟩ := q
          simp at h1 h2
          subst h1; subst h2
          rfl
        | succ j => exact Or.inr ⟨j, by omega, by simpa using h2⟩
theorem xl_at {ls : Array Slot} {n : Nat} {xl : List (Option Value)} (h : lv_has ls n (xe 0 xl)) {i : Nat} {v : Value} (hi : xl[i]? = some (some v)) : ls[i]? = some (.val v) :=
  h.2.2 (i, v) ((xe_mem xl 0 (i, v)).mpr ⟨i, by simp, hi⟩)
theorem xl_le {ls : Array Slot} {n : Nat} {l l' : List (Nat × Value)} (h : lv_has ls n l) (hs : ∀ q ∈ l', q ∈ l) : lv_has ls n l' := ⟨h.1, h.2.1, fun q hq => h.2.2 q (hs q hq)⟩
/-- the slot ahead of i is no long -/
def xlo (xl : List (Option Value)) : Nat → Bool
  | 0 => true
  | j + 1 => match xl[j]? with
    | some (some (.long _)) => false
    | some (some (.double _)) => false
    | _ => true
theorem xlo_ok {xl : List (Option Value)} {j i : Nat} {w : Value} (h : xlo xl i = true) (hj : xl[j]? = some (some w)) (hi : j + 1 = i) : ¬ w.category = 2 := by
  subst hi
  intro hc
  simp only [xlo, hj] at h
  cases w <;> simp [Value.category] at hc h
theorem xl_set1 {ls : Array Slot} {n : Nat} {xl : List (Option Value)} {i : Nat} {v : Value} (hn : i < xl.length) (ho : xlo xl i = true)
    (h : lv_has ls n ((i, v) :: (xe 0 xl).filter (fun q => !(q.1 == i) && !(q.1 + 1 == i && q.2.category == 2)))) : lv_has ls n (xe 0 (xl.set i (some v))) := by
  refine xl_le h (fun q hq => ?_)
  obtain ⟨j, h1, h2⟩ := (xe_mem _ 0 q).mp hq
  by_cases hj : i = j
  · subst hj
    rw [List.getElem?_set_self hn] at h2
    obtain ⟨a, b⟩ := q
    simp at h1 h2
    subst h1; subst h2
    exact List.mem_cons_self
  · rw [List.getElem?_set_ne hj] at h2
    refine List.mem_cons_of_mem _ (List.mem_filter.mpr ⟨(xe_mem _ 0 q).mpr ⟨j, h1, h2⟩, ?_⟩)
    have e1 : q.1 = j := by omega
    have e2 : (q.1 == i) = false := by simp [e1]; omega
    by_cases h3 : j + 1 = i
    · have := xlo_ok ho h2 h3
      simp [e1, this]; omega
    · simp [e1, h3]; omega
theorem xl_set2 {ls : Array Slot} {n : Nat} {xl : List (Option Value)} {i : Nat} {v : Value} (hn : i + 1 < xl.length) (ho : xlo xl i = true)
    (h : lv_has ls n ((i, v) :: (xe 0 xl).filter (fun q => !(q.1 == i) && (!(q.1 == i + 1) && !(q.1 + 1 == i && q.2.category == 2))))) : lv_has ls n (xe 0 ((xl.set i (some v)).set (i + 1) none)) := by
  refine xl_le h (fun q hq => ?_)
  obtain ⟨j, h1, h2⟩ := (xe_mem _ 0 q).mp hq
  by_cases hj1 : i + 1 = j
  · subst hj1
    rw [List.getElem?_set_self (by simpa using hn)] at h2
    simp at h2
  · rw [List.getElem?_set_ne hj1] at h2
    by_cases hj : i = j
    · subst hj
      rw [List.getElem?_set_self (by omega)] at h2
      obtain ⟨a, b⟩ := q
      simp at h1 h2
      subst h1; subst h2
      exact List.mem_cons_self
    · rw [List.getElem?_set_ne hj] at h2
      refine List.mem_cons_of_mem _ (List.mem_filter.mpr ⟨(xe_mem _ 0 q).mpr ⟨j, h1, h2⟩, ?_⟩)
      have e1 : q.1 = j := by omega
      by_cases h3 : j + 1 = i
      · have := xlo_ok ho h2 h3
        simp [e1, this]; omega
      · simp [e1, h3]; omega
end
section
/-! RULES OF xV, an instruction each -/
section XR
variable {G : xG} {Y : xY} {Tb : xT} {o : xO} {pc pc' tgt : Nat} {xl : List (Option Value)} {st : List Value} {T : xT} {R : xR} {L : xL} {I : xI} {off : Int}
theorem xV_iconst {n : Int} {v : Int32} (hd : decode Y.2.1 pc = .ok (.iconst n, 1) ∧ pc + 1 = pc') (hv : Int32.ofInt n = v) (k : xV G Y Tb o pc' xl (.int v :: st) T R L I) : xV G Y Tb o pc xl (st) T R L I := by
  obtain ⟨hd, rfl⟩ := hd
  exact fun p l e Rm s m args below meth c H locs Q ls hF hRm hl hn hR hS hE => lv_iconst hF.1 hF.2.1 hd hv (k p l e Rm s m args below meth c H locs Q ls hF hRm hl hn hR hS hE)
theorem xV_bipush {n : Int} {v : Int32} (hd : decode Y.2.1 pc = .ok (.bipush n, 2) ∧ pc + 2 = pc') (hv : (Int8.ofInt n).toInt32 = v) (k : xV G Y Tb o pc' xl (.int v :: st) T R L I) : xV G Y Tb o pc xl (st) T R L I := by
  obtain ⟨hd, rfl⟩ := hd
  exact fun p l e Rm s m args below meth c H locs Q ls hF hRm hl hn hR hS hE => lv_bipush hF.1 hF.2.1 hd hv (k p l e Rm s m args below meth c H locs Q ls hF hRm hl hn hR hS hE)
theorem xV_sipush {n : Int} {v : Int32} (hd : decode Y.2.1 pc = .ok (.sipush n, 3) ∧ pc + 3 = pc') (hv : (Int16.ofInt n).toInt32 = v) (k : xV G Y Tb o pc' xl (.int v :: st) T R L I) : xV G Y Tb o pc xl (st) T R L I := by
  obtain ⟨hd, rfl⟩ := hd
  exact fun p l e Rm s m args below meth c H locs Q ls hF hRm hl hn hR hS hE => lv_sipush hF.1 hF.2.1 hd hv (k p l e Rm s m args below meth c H locs Q ls hF hRm hl hn hR hS hE)
theorem xV_lconst {n : Fin 2} {v : Int64} (hd : decode Y.2.1 pc = .ok (.lconst n, 1) ∧ pc + 1 = pc') (hv : Int64.ofNat (n : Nat) = v) (k : xV G Y Tb o pc' xl (.long v :: st) T R L I) : xV G Y Tb o pc xl (st) T R L I := by
  obtain ⟨hd, rfl⟩ := hd
  exact fun p l e Rm s m args below meth c H locs Q ls hF hRm hl hn hR hS hE => lv_lconst hF.1 hF.2.1 hd hv (k p l e Rm s m args below meth c H locs Q ls hF hRm hl hn hR hS hE)
theorem xV_iload_n {k0 : Fin 4} {x : Int32} (hd : decode Y.2.1 pc = .ok (.iload_n k0, 1) ∧ pc + 1 = pc') (hx : xl[(k0 : Nat)]? = some (some (.int x))) (k : xV G Y Tb o pc' xl (.int x :: st) T R L I) : xV G Y Tb o pc xl (st) T R L I := by
  obtain ⟨hd, rfl⟩ := hd
  exact fun p l e Rm s m args below meth c H locs Q ls hF hRm hl hn hR hS hE => lv_iload_n hF.1 hF.2.1 hd rfl (xl_at hl hx) (k p l e Rm s m args below meth c H locs Q ls hF hRm hl hn hR hS hE)
theorem xV_iload {i : Nat} {x : Int32} (hd : decode Y.2.1 pc = .ok (.iload i, 2) ∧ pc + 2 = pc') (hx : xl[i]? = some (some (.int x))) (k : xV G Y Tb o pc' xl (.int x :: st) T R L I) : xV G Y Tb o pc xl (st) T R L I := by
  obtain ⟨hd, rfl⟩ := hd
  exact fun p l e Rm s m args below meth c H locs Q ls hF hRm hl hn hR hS hE => lv_iload hF.1 hF.2.1 hd (xl_at hl hx) (k p l e Rm s m args below meth c H locs Q ls hF hRm hl hn hR hS hE)
theorem xV_lload_n {k0 : Fin 4} {x : Int64} (hd : decode Y.2.1 pc = .ok (.lload_n k0, 1) ∧ pc + 1 = pc') (hx : xl[(k0 : Nat)]? = some (some (.long x))) (k : xV G Y Tb o pc' xl (.long x :: st) T R L I) : xV G Y Tb o pc xl (st) T R L I := by
  obtain ⟨hd, rfl⟩ := hd
  exact fun p l e Rm s m args below meth c H locs Q ls hF hRm hl hn hR hS hE => lv_lload_n hF.1 hF.2.1 hd rfl (xl_at hl hx) (k p l e Rm s m args below meth c H locs Q ls hF hRm hl hn hR hS hE)
theorem xV_lload {i : Nat} {x : Int64} (hd : decode Y.2.1 pc = .ok (.lload i, 2) ∧ pc + 2 = pc') (hx : xl[i]? = some (some (.long x))) (k : xV G Y Tb o pc' xl (.long x :: st) T R L I) : xV G Y Tb o pc xl (st) T R L I := by
  obtain ⟨hd, rfl⟩ := hd
  exact fun p l e Rm s m args below meth c H locs Q ls hF hRm hl hn hR hS hE => lv_lload hF.1 hF.2.1 hd (xl_at hl hx) (k p l e Rm s m args below meth c H locs Q ls hF hRm hl hn hR hS hE)
theorem xV_aload_n {k0 : Fin 4} {x : Nat} (hd : decode Y.2.1 pc = .ok (.aload_n k0, 1) ∧ pc + 1 = pc') (hx : xl[(k0 : Nat)]? = some (some (.ref x))) (k : xV G Y Tb o pc' xl (.ref x :: st) T R L I) : xV G Y Tb o pc xl (st) T R L I := by
  obtain ⟨hd, rfl⟩ := hd
  exact fun p l e Rm s m args below meth c H locs Q ls hF hRm hl hn hR hS hE => lv_aload_n hF.1 hF.2.1 hd rfl (xl_at hl hx) (k p l e Rm s m args below meth c H locs Q ls hF hRm hl hn hR hS hE)
theorem xV_iadd {x y : Int32} (hd : decode Y.2.1 pc = .ok (.iadd, 1) ∧ pc + 1 = pc')  (k : xV G Y Tb o pc' xl (.int (x + y) :: st) T R L I) : xV G Y Tb o pc xl (.int y :: .int x :: st) T R L I := by
  obtain ⟨hd, rfl⟩ := hd
  exact fun p l e Rm s m args below meth c H locs Q ls hF hRm hl hn hR hS hE => lv_iadd hF.1 hF.2.1 hd (k p l e Rm s m args below meth c H locs Q ls hF hRm hl hn hR hS hE)
theorem xV_isub {x y : Int32} (hd : decode Y.2.1 pc = .ok (.isub, 1) ∧ pc + 1 = pc')  (k : xV G Y Tb o pc' xl (.int (x - y) :: st) T R L I) : xV G Y Tb o pc xl (.int y :: .int x :: st) T R L I := by
  obtain ⟨hd, rfl⟩ := hd
  exact fun p l e Rm s m args below meth c H locs Q ls hF hRm hl hn hR hS hE => lv_isub hF.1 hF.2.1 hd (k p l e Rm s m args below meth c H locs Q ls hF hRm hl hn hR hS hE)
theorem xV_imul {x y : Int32} (hd : decode Y.2.1 pc = .ok (.imul, 1) ∧ pc + 1 = pc')  (k : xV G Y Tb o pc' xl (.int (x * y) :: st) T R L I) : xV G Y Tb o pc xl (.int y :: .int x :: st) T R L I := by
  obtain ⟨hd, rfl⟩ := hd
  exact fun p l e Rm s m args below meth c H locs Q ls hF hRm hl hn hR hS hE => lv_imul hF.1 hF.2.1 hd (k p l e Rm s m args below meth c H locs Q ls hF hRm hl hn hR hS hE)
theorem xV_iand {x y : Int32} (hd : decode Y.2.1 pc = .ok (.iand, 1) ∧ pc + 1 = pc')  (k : xV G Y Tb o pc' xl (.int (x &&& y) :: st) T R L I) : xV G Y Tb o pc xl (.int y :: .int x :: st) T R L I := by
  obtain ⟨hd, rfl⟩ := hd
  exact fun p l e Rm s m args below meth c H locs Q ls hF hRm hl hn hR hS hE => lv_iand hF.1 hF.2.1 hd (k p l e Rm s m args below meth c H locs Q ls hF hRm hl hn hR hS hE)
theorem xV_ior {x y : Int32} (hd : decode Y.2.1 pc = .ok (.ior, 1) ∧ pc + 1 = pc')  (k : xV G Y Tb o pc' xl (.int (x ||| y) :: st) T R L I) : xV G Y Tb o pc xl (.int y :: .int x :: st) T R L I := by
  obtain ⟨hd, rfl⟩ := hd
  exact fun p l e Rm s m args below meth c H locs Q ls hF hRm hl hn hR hS hE => lv_ior hF.1 hF.2.1 hd (k p l e Rm s m args below meth c H locs Q ls hF hRm hl hn hR hS hE)
theorem xV_ixor {x y : Int32} (hd : decode Y.2.1 pc = .ok (.ixor, 1) ∧ pc + 1 = pc')  (k : xV G Y Tb o pc' xl (.int (x ^^^ y) :: st) T R L I) : xV G Y Tb o pc xl (.int y :: .int x :: st) T R L I := by
  obtain ⟨hd, rfl⟩ := hd
  exact fun p l e Rm s m args below meth c H locs Q ls hF hRm hl hn hR hS hE => lv_ixor hF.1 hF.2.1 hd (k p l e Rm s m args below meth c H locs Q ls hF hRm hl hn hR hS hE)
theorem xV_ishl {x y : Int32} (hd : decode Y.2.1 pc = .ok (.ishl, 1) ∧ pc + 1 = pc')  (k : xV G Y Tb o pc' xl (.int (x <<< (y &&& 31)) :: st) T R L I) : xV G Y Tb o pc xl (.int y :: .int x :: st) T R L I := by
  obtain ⟨hd, rfl⟩ := hd
  exact fun p l e Rm s m args below meth c H locs Q ls hF hRm hl hn hR hS hE => lv_ishl hF.1 hF.2.1 hd (k p l e Rm s m args below meth c H locs Q ls hF hRm hl hn hR hS hE)
theorem xV_ishr {x y : Int32} (hd : decode Y.2.1 pc = .ok (.ishr, 1) ∧ pc + 1 = pc')  (k : xV G Y Tb o pc' xl (.int (x >>> (y &&& 31)) :: st) T R L I) : xV G Y Tb o pc xl (.int y :: .int x :: st) T R L I := by
  obtain ⟨hd, rfl⟩ := hd
  exact fun p l e Rm s m args below meth c H locs Q ls hF hRm hl hn hR hS hE => lv_ishr hF.1 hF.2.1 hd (k p l e Rm s m args below meth c H locs Q ls hF hRm hl hn hR hS hE)
theorem xV_idiv {x y : Int32} (hd : decode Y.2.1 pc = .ok (.idiv, 1) ∧ pc + 1 = pc') (h0 : ¬ y = 0) (k : xV G Y Tb o pc' xl (.int (x / y) :: st) T R L I) : xV G Y Tb o pc xl (.int y :: .int x :: st) T R L I := by
  obtain ⟨hd, rfl⟩ := hd
  exact fun p l e Rm s m args below meth c H locs Q ls hF hRm hl hn hR hS hE => lv_idiv hF.1 hF.2.1 hd h0 (k p l e Rm s m args below meth c H locs Q ls hF hRm hl hn hR hS hE)
theorem xV_irem {x y : Int32} (hd : decode Y.2.1 pc = .ok (.irem, 1) ∧ pc + 1 = pc') (h0 : ¬ y = 0) (k : xV G Y Tb o pc' xl (.int (x - x / y * y) :: st) T R L I) : xV G Y Tb o pc xl (.int y :: .int x :: st) T R L I := by
  obtain ⟨hd, rfl⟩ := hd
  exact fun p l e Rm s m args below meth c H locs Q ls hF hRm hl hn hR hS hE => lv_irem hF.1 hF.2.1 hd h0 (k p l e Rm s m args below meth c H locs Q ls hF hRm hl hn hR hS hE)
theorem xV_iushr {x y : Int32} (hd : decode Y.2.1 pc = .ok (.iushr, 1) ∧ pc + 1 = pc')  (k : xV G Y Tb o pc' xl (.int ((x.toUInt32 >>> (y.toUInt32 &&& Int32.toUInt32 31)).toInt32) :: st) T R L I) : xV G Y Tb o pc xl (.int y :: .int x :: st) T R L I := by
  obtain ⟨hd, rfl⟩ := hd
  exact fun p l e Rm s m args below meth c H locs Q ls hF hRm hl hn hR hS hE => lv_iushr hF.1 hF.2.1 hd rfl (k p l e Rm s m args below meth c H locs Q ls hF hRm hl hn hR hS hE)
theorem xV_ladd {x y : Int64} (hd : decode Y.2.1 pc = .ok (.ladd, 1) ∧ pc + 1 = pc')  (k : xV G Y Tb o pc' xl (.long (x + y) :: st) T R L I) : xV G Y Tb o pc xl (.long y :: .long x :: st) T R L I := by
  obtain ⟨hd, rfl⟩ := hd
  exact fun p l e Rm s m args below meth c H locs Q ls hF hRm hl hn hR hS hE => lv_ladd hF.1 hF.2.1 hd (k p l e Rm s m args below meth c H locs Q ls hF hRm hl hn hR hS hE)
theorem xV_lmul {x y : Int64} (hd : decode Y.2.1 pc = .ok (.lmul, 1) ∧ pc + 1 = pc')  (k : xV G Y Tb o pc' xl (.long (x * y) :: st) T R L I) : xV G Y Tb o pc xl (.long y :: .long x :: st) T R L I := by
  obtain ⟨hd, rfl⟩ := hd
  exact fun p l e Rm s m args below meth c H locs Q ls hF hRm hl hn hR hS hE => lv_lmul hF.1 hF.2.1 hd (k p l e Rm s m args below meth c H locs Q ls hF hRm hl hn hR hS hE)
theorem xV_land {x y : Int64} (hd : decode Y.2.1 pc = .ok (.land, 1) ∧ pc + 1 = pc')  (k : xV G Y Tb o pc' xl (.long (x &&& y) :: st) T R L I) : xV G Y Tb o pc xl (.long y :: .long x :: st) T R L I := by
  obtain ⟨hd, rfl⟩ := hd
  exact fun p l e Rm s m args below meth c H locs Q ls hF hRm hl hn hR hS hE => lv_land hF.1 hF.2.1 hd (k p l e Rm s m args below meth c H locs Q ls hF hRm hl hn hR hS hE)
theorem xV_lor {x y : Int64} (hd : decode Y.2.1 pc = .ok (.lor, 1) ∧ pc + 1 = pc')  (k : xV G Y Tb o pc' xl (.long (x ||| y) :: st) T R L I) : xV G Y Tb o pc xl (.long y :: .long x :: st) T R L I := by
  obtain ⟨hd, rfl⟩ := hd
  exact fun p l e Rm s m args below meth c H locs Q ls hF hRm hl hn hR hS hE => lv_lor hF.1 hF.2.1 hd (k p l e Rm s m args below meth c H locs Q ls hF hRm hl hn hR hS hE)
theorem xV_lrem {x y : Int64} (hd : decode Y.2.1 pc = .ok (.lrem, 1) ∧ pc + 1 = pc') (h0 : ¬ y = 0) (k : xV G Y Tb o pc' xl (.long (x - x / y * y) :: st) T R L I) : xV G Y Tb o pc xl (.long y :: .long x :: st) T R L I := by
  obtain ⟨hd, rfl⟩ := hd
  exact fun p l e Rm s m args below meth c H locs Q ls hF hRm hl hn hR hS hE => lv_lrem hF.1 hF.2.1 hd h0 (k p l e Rm s m args below meth c H locs Q ls hF hRm hl hn hR hS hE)
theorem xV_lushr {x : Int64} {y : Int32} (hd : decode Y.2.1 pc = .ok (.lushr, 1) ∧ pc + 1 = pc')  (k : xV G Y Tb o pc' xl (.long ((x.toUInt64 >>> (y.toInt64.toUInt64 &&& Int64.toUInt64 63)).toInt64) :: st) T R L I) : xV G Y Tb o pc xl (.int y :: .long x :: st) T R L I := by
  obtain ⟨hd, rfl⟩ := hd
  exact fun p l e Rm s m args below meth c H locs Q ls hF hRm hl hn hR hS hE => lv_lushr hF.1 hF.2.1 hd rfl (k p l e Rm s m args below meth c H locs Q ls hF hRm hl hn hR hS hE)
theorem xV_lshl {x : Int64} {y : Int32} (hd : decode Y.2.1 pc = .ok (.lshl, 1) ∧ pc + 1 = pc')  (k : xV G Y Tb o pc' xl (.long (x <<< (y.toInt64 &&& 63)) :: st) T R L I) : xV G Y Tb o pc xl (.int y :: .long x :: st) T R L I := by
  obtain ⟨hd, rfl⟩ := hd
  exact fun p l e Rm s m args below meth c H locs Q ls hF hRm hl hn hR hS hE => lv_lshl hF.1 hF.2.1 hd rfl (k p l e Rm s m args below meth c H locs Q ls hF hRm hl hn hR hS hE)
theorem xV_lshr {x : Int64} {y : Int32} (hd : decode Y.2.1 pc = .ok (.lshr, 1) ∧ pc + 1 = pc')  (k : xV G Y Tb o pc' xl (.long (x >>> (y.toInt64 &&& 63)) :: st) T R L I) : xV G Y Tb o pc xl (.int y :: .long x :: st) T R L I := by
  obtain ⟨hd, rfl⟩ := hd
  exact fun p l e Rm s m args below meth c H locs Q ls hF hRm hl hn hR hS hE => lv_lshr hF.1 hF.2.1 hd rfl (k p l e Rm s m args below meth c H locs Q ls hF hRm hl hn hR hS hE)
theorem xV_lcmp {x y : Int64} (hd : decode Y.2.1 pc = .ok (.lcmp, 1) ∧ pc + 1 = pc')  (k : xV G Y Tb o pc' xl (.int (lg_cmp x y) :: st) T R L I) : xV G Y Tb o pc xl (.long y :: .long x :: st) T R L I := by
  obtain ⟨hd, rfl⟩ := hd
  exact fun p l e Rm s m args below meth c H locs Q ls hF hRm hl hn hR hS hE => W.lcmp hF.1 hF.2.1 hd (k p l e Rm s m args below meth c H locs Q ls hF hRm hl hn hR hS hE)
theorem xV_i2l {x : Int32} (hd : decode Y.2.1 pc = .ok (.i2l, 1) ∧ pc + 1 = pc')  (k : xV G Y Tb o pc' xl (.long x.toInt64 :: st) T R L I) : xV G Y Tb o pc xl (.int x :: st) T R L I := by
  obtain ⟨hd, rfl⟩ := hd
  exact fun p l e Rm s m args below meth c H locs Q ls hF hRm hl hn hR hS hE => lv_i2l hF.1 hF.2.1 hd rfl (k p l e Rm s m args below meth c H locs Q ls hF hRm hl hn hR hS hE)
theorem xV_l2i {x : Int64} (hd : decode Y.2.1 pc = .ok (.l2i, 1) ∧ pc + 1 = pc')  (k : xV G Y Tb o pc' xl (.int x.toInt32 :: st) T R L I) : xV G Y Tb o pc xl (.long x :: st) T R L I := by
  obtain ⟨hd, rfl⟩ := hd
  exact fun p l e Rm s m args below meth c H locs Q ls hF hRm hl hn hR hS hE => lv_l2i hF.1 hF.2.1 hd rfl (k p l e Rm s m args below meth c H locs Q ls hF hRm hl hn hR hS hE)
theorem xV_dup {va : Value} (hd : decode Y.2.1 pc = .ok (.dup, 1) ∧ pc + 1 = pc') (hc : va.category = 1) (k : xV G Y Tb o pc' xl (va :: va :: st) T R L I) : xV G Y Tb o pc xl (va :: st) T R L I := by
  obtain ⟨hd, rfl⟩ := hd
  exact fun p l e Rm s m args below meth c H locs Q ls hF hRm hl hn hR hS hE => lv_dup hF.1 hF.2.1 hd hc (k p l e Rm s m args below meth c H locs Q ls hF hRm hl hn hR hS hE)
theorem xV_pop {va : Value} (hd : decode Y.2.1 pc = .ok (.pop, 1) ∧ pc + 1 = pc') (hc : va.category = 1) (k : xV G Y Tb o pc' xl (st) T R L I) : xV G Y Tb o pc xl (va :: st) T R L I := by
  obtain ⟨hd, rfl⟩ := hd
  exact fun p l e Rm s m args below meth c H locs Q ls hF hRm hl hn hR hS hE => lv_pop hF.1 hF.2.1 hd hc (k p l e Rm s m args below meth c H locs Q ls hF hRm hl hn hR hS hE)
theorem xV_dup2 {va vb : Value} (hd : decode Y.2.1 pc = .ok (.dup2, 1) ∧ pc + 1 = pc') (hc : va.category = 1) (hc2 : vb.category = 1) (k : xV G Y Tb o pc' xl (va :: vb :: va :: vb :: st) T R L I) : xV G Y Tb o pc xl (va :: vb :: st) T R L I := by
  obtain ⟨hd, rfl⟩ := hd
  exact fun p l e Rm s m args below meth c H locs Q ls hF hRm hl hn hR hS hE => lv_dup2_11 hF.1 hF.2.1 hd hc hc2 (k p l e Rm s m args below meth c H locs Q ls hF hRm hl hn hR hS hE)
theorem xV_istore_n {k0 : Fin 4} {x : Int32} (hd : decode Y.2.1 pc = .ok (.istore_n k0, 1) ∧ pc + 1 = pc') (hi : (k0 : Nat) < xl.length) (ho : xlo xl (k0 : Nat) = true) (k : xV G Y Tb o pc' ((xl.set (k0 : Nat) (some (.int x)))) st T R L I) : xV G Y Tb o pc xl (.int x :: st) T R L I := by
  obtain ⟨hd, rfl⟩ := hd
  exact fun p l e Rm s m args below meth c H locs Q ls hF hRm hl hn hR hS hE => lv_istore_n hF.1 hF.2.1 hd rfl hl (hn ▸ hi) rfl (fun ls hl => k p l e Rm s m args below meth c H locs Q ls hF hRm (xl_set1 hi ho hl) (by simpa using hn) hR hS hE)
theorem xV_istore {i : Nat} {x : Int32} (hd : decode Y.2.1 pc = .ok (.istore i, 2) ∧ pc + 2 = pc') (hi : i < xl.length) (ho : xlo xl i = true) (k : xV G Y Tb o pc' ((xl.set i (some (.int x)))) st T R L I) : xV G Y Tb o pc xl (.int x :: st) T R L I := by
  obtain ⟨hd, rfl⟩ := hd
  exact fun p l e Rm s m args below meth c H locs Q ls hF hRm hl hn hR hS hE => lv_istore hF.1 hF.2.1 hd hl (hn ▸ hi) rfl (fun ls hl => k p l e Rm s m args below meth c H locs Q ls hF hRm (xl_set1 hi ho hl) (by simpa using hn) hR hS hE)
theorem xV_astore_n {k0 : Fin 4} {x : Nat} (hd : decode Y.2.1 pc = .ok (.astore_n k0, 1) ∧ pc + 1 = pc') (hi : (k0 : Nat) < xl.length) (ho : xlo xl (k0 : Nat) = true) (k : xV G Y Tb o pc' ((xl.set (k0 : Nat) (some (.ref x)))) st T R L I) : xV G Y Tb o pc xl (.ref x :: st) T R L I := by
  obtain ⟨hd, rfl⟩ := hd
  exact fun p l e Rm s m args below meth c H locs Q ls hF hRm hl hn hR hS hE => lv_astore_n hF.1 hF.2.1 hd rfl hl (hn ▸ hi) rfl (fun ls hl => k p l e Rm s m args below meth c H locs Q ls hF hRm (xl_set1 hi ho hl) (by simpa using hn) hR hS hE)
theorem xV_lstore_n {k0 : Fin 4} {x : Int64} (hd : decode Y.2.1 pc = .ok (.lstore_n k0, 1) ∧ pc + 1 = pc') (hi : (k0 : Nat) + 1 < xl.length) (ho : xlo xl (k0 : Nat) = true) (k : xV G Y Tb o pc' ((xl.set (k0 : Nat) (some (.long x))).set ((k0 : Nat) + 1) none) st T R L I) : xV G Y Tb o pc xl (.long x :: st) T R L I := by
  obtain ⟨hd, rfl⟩ := hd
  exact fun p l e Rm s m args below meth c H locs Q ls hF hRm hl hn hR hS hE => lv_lstore_n hF.1 hF.2.1 hd rfl hl (hn ▸ hi) rfl (fun ls hl => k p l e Rm s m args below meth c H locs Q ls hF hRm (xl_set2 hi ho hl) (by simpa using hn) hR hS hE)
theorem xe_idx {xl : List (Option Value)} {i : Nat} {v : Value} (h : xl[i]? = some (some v)) : ∃ k : Nat, (xe 0 xl)[k]? = some (i, v) := List.getElem?_of_mem ((xe_mem xl 0 (i, v)).mpr ⟨i, by simp, h⟩)
theorem xV_iinc {i : Nat} {n : Int} {x v : Int32} (hd : decode Y.2.1 pc = .ok (.iinc i n, 3) ∧ pc + 3 = pc') (hx : xl[i]? = some (some (.int x))) (hv : x + Int32.ofInt n = v) (ho : xlo xl i = true) (k : xV G Y Tb o pc' (xl.set i (some (.int v))) st T R L I) : xV G Y Tb o pc xl st T R L I := by
  obtain ⟨hd, rfl⟩ := hd
  obtain ⟨q, hq⟩ := xe_idx hx
  have hi : i < xl.length := (List.getElem?_eq_some_iff.mp hx).1
  exact fun p l e Rm s m args below meth c H locs Q ls hF hRm hl hn hR hS hE => lv_iinc hF.1 hF.2.1 hd hl hq hv (hn ▸ hi) rfl (fun ls hl => k p l e Rm s m args below meth c H locs Q ls hF hRm (xl_set1 hi ho hl) (by simpa using hn) hR hS hE)
theorem xV_if_eq {x : Int32} (hd : decode Y.2.1 pc = .ok (.ifCond .eq off, 3) ∧ pc + 3 = pc' ∧ (pc : Int) + off = (tgt : Int)) (kt : x = 0 → xV G Y Tb o tgt xl st T R L I) (kf : ¬ x = 0 → xV G Y Tb o pc' xl st T R L I) : xV G Y Tb o pc xl (.int x :: st) T R L I := by
  obtain ⟨hd, rfl, ht⟩ := hd
  exact fun p l e Rm s m args below meth c H locs Q ls hF hRm hl hn hR hS hE => lv_if_eq hF.1 hF.2.1 hd ht (fun h => kt h p l e Rm s m args below meth c H locs Q ls hF hRm hl hn hR hS hE) (fun h => kf h p l e Rm s m args below meth c H locs Q ls hF hRm hl hn hR hS hE)
theorem xV_icmp_eq {x y : Int32} (hd : decode Y.2.1 pc = .ok (.if_icmp .eq off, 3) ∧ pc + 3 = pc' ∧ (pc : Int) + off = (tgt : Int)) (kt : x = y → xV G Y Tb o tgt xl st T R L I) (kf : ¬ x = y → xV G Y Tb o pc' xl st T R L I) : xV G Y Tb o pc xl (.int y :: .int x :: st) T R L I := by
  obtain ⟨hd, rfl, ht⟩ := hd
  exact fun p l e Rm s m args below meth c H locs Q ls hF hRm hl hn hR hS hE => lv_icmp_eq hF.1 hF.2.1 hd ht (fun h => kt h p l e Rm s m args below meth c H locs Q ls hF hRm hl hn hR hS hE) (fun h => kf h p l e Rm s m args below meth c H locs Q ls hF hRm hl hn hR hS hE)
theorem xV_if_ne {x : Int32} (hd : decode Y.2.1 pc = .ok (.ifCond .ne off, 3) ∧ pc + 3 = pc' ∧ (pc : Int) + off = (tgt : Int)) (kt : ¬ x = 0 → xV G Y Tb o tgt xl st T R L I) (kf : x = 0 → xV G Y Tb o pc' xl st T R L I) : xV G Y Tb o pc xl (.int x :: st) T R L I := by
  obtain ⟨hd, rfl, ht⟩ := hd
  exact fun p l e Rm s m args below meth c H locs Q ls hF hRm hl hn hR hS hE => lv_if_ne hF.1 hF.2.1 hd ht (fun h => kt h p l e Rm s m args below meth c H locs Q ls hF hRm hl hn hR hS hE) (fun h => kf h p l e Rm s m args below meth c H locs Q ls hF hRm hl hn hR hS hE)
theorem xV_icmp_ne {x y : Int32} (hd : decode Y.2.1 pc = .ok (.if_icmp .ne off, 3) ∧ pc + 3 = pc' ∧ (pc : Int) + off = (tgt : Int)) (kt : ¬ x = y → xV G Y Tb o tgt xl st T R L I) (kf : x = y → xV G Y Tb o pc' xl st T R L I) : xV G Y Tb o pc xl (.int y :: .int x :: st) T R L I := by
  obtain ⟨hd, rfl, ht⟩ := hd
  exact fun p l e Rm s m args below meth c H locs Q ls hF hRm hl hn hR hS hE => lv_icmp_ne hF.1 hF.2.1 hd ht (fun h => kt h p l e Rm s m args below meth c H locs Q ls hF hRm hl hn hR hS hE) (fun h => kf h p l e Rm s m args below meth c H locs Q ls hF hRm hl hn hR hS hE)
theorem xV_if_lt {x : Int32} (hd : decode Y.2.1 pc = .ok (.ifCond .lt off, 3) ∧ pc + 3 = pc' ∧ (pc : Int) + off = (tgt : Int)) (kt : x < 0 → xV G Y Tb o tgt xl st T R L I) (kf : ¬ x < 0 → xV G Y Tb o pc' xl st T R L I) : xV G Y Tb o pc xl (.int x :: st) T R L I := by
  obtain ⟨hd, rfl, ht⟩ := hd
  exact fun p l e Rm s m args below meth c H locs Q ls hF hRm hl hn hR hS hE => lv_if_lt hF.1 hF.2.1 hd ht (fun h => kt h p l e Rm s m args below meth c H locs Q ls hF hRm hl hn hR hS hE) (fun h => kf h p l e Rm s m args below meth c H locs Q ls hF hRm hl hn hR hS hE)
theorem xV_icmp_lt {x y : Int32} (hd : decode Y.2.1 pc = .ok (.if_icmp .lt off, 3) ∧ pc + 3 = pc' ∧ (pc : Int) + off = (tgt : Int)) (kt : x < y → xV G Y Tb o tgt xl st T R L I) (kf : ¬ x < y → xV G Y Tb o pc' xl st T R L I) : xV G Y Tb o pc xl (.int y :: .int x :: st) T R L I := by
  obtain ⟨hd, rfl, ht⟩ := hd
  exact fun p l e Rm s m args below meth c H locs Q ls hF hRm hl hn hR hS hE => lv_icmp_lt hF.1 hF.2.1 hd ht (fun h => kt h p l e Rm s m args below meth c H locs Q ls hF hRm hl hn hR hS hE) (fun h => kf h p l e Rm s m args below meth c H locs Q ls hF hRm hl hn hR hS hE)
theorem xV_if_ge {x : Int32} (hd : decode Y.2.1 pc = .ok (.ifCond .ge off, 3) ∧ pc + 3 = pc' ∧ (pc : Int) + off = (tgt : Int)) (kt : 0 ≤ x → xV G Y Tb o tgt xl st T R L I) (kf : ¬ 0 ≤ x → xV G Y Tb o pc' xl st T R L I) : xV G Y Tb o pc xl (.int x :: st) T R L I := by
  obtain ⟨hd, rfl, ht⟩ := hd
  exact fun p l e Rm s m args below meth c H locs Q ls hF hRm hl hn hR hS hE => lv_if_ge hF.1 hF.2.1 hd ht (fun h => kt h p l e Rm s m args below meth c H locs Q ls hF hRm hl hn hR hS hE) (fun h => kf h p l e Rm s m args below meth c H locs Q ls hF hRm hl hn hR hS hE)
theorem xV_icmp_ge {x y : Int32} (hd : decode Y.2.1 pc = .ok (.if_icmp .ge off, 3) ∧ pc + 3 = pc' ∧ (pc : Int) + off = (tgt : Int)) (kt : y ≤ x → xV G Y Tb o tgt xl st T R L I) (kf : ¬ y ≤ x → xV G Y Tb o pc' xl st T R L I) : xV G Y Tb o pc xl (.int y :: .int x :: st) T R L I := by
  obtain ⟨hd, rfl, ht⟩ := hd
  exact fun p l e Rm s m args below meth c H locs Q ls hF hRm hl hn hR hS hE => lv_icmp_ge hF.1 hF.2.1 hd ht (fun h => kt h p l e Rm s m args below meth c H locs Q ls hF hRm hl hn hR hS hE) (fun h => kf h p l e Rm s m args below meth c H locs Q ls hF hRm hl hn hR hS hE)
theorem xV_if_gt {x : Int32} (hd : decode Y.2.1 pc = .ok (.ifCond .gt off, 3) ∧ pc + 3 = pc' ∧ (pc : Int) + off = (tgt : Int)) (kt : 0 < x → xV G Y Tb o tgt xl st T R L I) (kf : ¬ 0 < x → xV G Y Tb o pc' xl st T R L I) : xV G Y Tb o pc xl (.int x :: st) T R L I := by
  obtain ⟨hd, rfl, ht⟩ := hd
  exact fun p l e Rm s m args below meth c H locs Q ls hF hRm hl hn hR hS hE => lv_if_gt hF.1 hF.2.1 hd ht (fun h => kt h p l e Rm s m args below meth c H locs Q ls hF hRm hl hn hR hS hE) (fun h => kf h p l e Rm s m args below meth c H locs Q ls hF hRm hl hn hR hS hE)
theorem xV_icmp_gt {x y : Int32} (hd : decode Y.2.1 pc = .ok (.if_icmp .gt off, 3) ∧ pc + 3 = pc' ∧ (pc : Int) + off = (tgt : Int)) (kt : y < x → xV G Y Tb o tgt xl st T R L I) (kf : ¬ y < x → xV G Y Tb o pc' xl st T R L I) : xV G Y Tb o pc xl (.int y :: .int x :: st) T R L I := by
  obtain ⟨hd, rfl, ht⟩ := hd
  exact fun p l e Rm s m args below meth c H locs Q ls hF hRm hl hn hR hS hE => lv_icmp_gt hF.1 hF.2.1 hd ht (fun h => kt h p l e Rm s m args below meth c H locs Q ls hF hRm hl hn hR hS hE) (fun h => kf h p l e Rm s m args below meth c H locs Q ls hF hRm hl hn hR hS hE)
theorem xV_if_le {x : Int32} (hd : decode Y.2.1 pc = .ok (.ifCond .le off, 3) ∧ pc + 3 = pc' ∧ (pc : Int) + off = (tgt : Int)) (kt : x ≤ 0 → xV G Y Tb o tgt xl st T R L I) (kf : ¬ x ≤ 0 → xV G Y Tb o pc' xl st T R L I) : xV G Y Tb o pc xl (.int x :: st) T R L I := by
  obtain ⟨hd, rfl, ht⟩ := hd
  exact fun p l e Rm s m args below meth c H locs Q ls hF hRm hl hn hR hS hE => lv_if_le hF.1 hF.2.1 hd ht (fun h => kt h p l e Rm s m args below meth c H locs Q ls hF hRm hl hn hR hS hE) (fun h => kf h p l e Rm s m args below meth c H locs Q ls hF hRm hl hn hR hS hE)
theorem xV_icmp_le {x y : Int32} (hd : decode Y.2.1 pc = .ok (.if_icmp .le off, 3) ∧ pc + 3 = pc' ∧ (pc : Int) + off = (tgt : Int)) (kt : x ≤ y → xV G Y Tb o tgt xl st T R L I) (kf : ¬ x ≤ y → xV G Y Tb o pc' xl st T R L I) : xV G Y Tb o pc xl (.int y :: .int x :: st) T R L I := by
  obtain ⟨hd, rfl, ht⟩ := hd
  exact fun p l e Rm s m args below meth c H locs Q ls hF hRm hl hn hR hS hE => lv_icmp_le hF.1 hF.2.1 hd ht (fun h => kt h p l e Rm s m args below meth c H locs Q ls hF hRm hl hn hR hS hE) (fun h => kf h p l e Rm s m args below meth c H locs Q ls hF hRm hl hn hR hS hE)
theorem xV_goto (hd : decode Y.2.1 pc = .ok (.goto off, 3) ∧ pc + 3 = pc' ∧ (pc : Int) + off = (tgt : Int)) (k : xV G Y Tb o tgt xl st T R L I) : xV G Y Tb o pc xl st T R L I := by
  obtain ⟨hd, rfl, ht⟩ := hd
  exact fun p l e Rm s m args below meth c H locs Q ls hF hRm hl hn hR hS hE => lv_goto hF.1 hF.2.1 hd ht (k p l e Rm s m args below meth c H locs Q ls hF hRm hl hn hR hS hE)
theorem xV_ifnonnull {a : Nat} (hd : decode Y.2.1 pc = .ok (.ifnonnull off, 3) ∧ pc + 3 = pc' ∧ (pc : Int) + off = (tgt : Int)) (k : xV G Y Tb o tgt xl st T R L I) : xV G Y Tb o pc xl (.ref a :: st) T R L I := by
  obtain ⟨hd, rfl, ht⟩ := hd
  exact fun p l e Rm s m args below meth c H locs Q ls hF hRm hl hn hR hS hE => lv_ifnonnull hF.1 hF.2.1 hd ht (k p l e Rm s m args below meth c H locs Q ls hF hRm hl hn hR hS hE)
theorem xV_ifnull {a : Nat} (hd : decode Y.2.1 pc = .ok (.ifnull off, 3) ∧ pc + 3 = pc' ∧ (pc : Int) + off = (tgt : Int)) (k : xV G Y Tb o pc' xl st T R L I) : xV G Y Tb o pc xl (.ref a :: st) T R L I := by
  obtain ⟨hd, rfl, ht⟩ := hd
  exact fun p l e Rm s m args below meth c H locs Q ls hF hRm hl hn hR hS hE => lv_ifnull hF.1 hF.2.1 hd (k p l e Rm s m args below meth c H locs Q ls hF hRm hl hn hR hS hE)
theorem xV_tswIn {dflt lo hi : Int} {offs : Array Int} {len : Nat} {x : Int32} (hd : decode Y.2.1 pc = .ok (.tableswitch dflt lo hi offs, len)) (h1 : ¬ x.toInt < lo) (h2 : ¬ hi < x.toInt) (ho : offs[(x.toInt - lo).toNat]? = some off) (ht : (pc : Int) + off = (tgt : Int)) (k : xV G Y Tb o tgt xl st T R L I) : xV G Y Tb o pc xl (.int x :: st) T R L I :=
  fun p l e Rm s m args below meth c H locs Q ls hF hRm hl hn hR hS hE => lv_tableIn hF.1 hF.2.1 hd h1 h2 ho ht (k p l e Rm s m args below meth c H locs Q ls hF hRm hl hn hR hS hE)
theorem xV_tswOut {dflt lo hi : Int} {offs : Array Int} {len : Nat} {x : Int32} (hd : decode Y.2.1 pc = .ok (.tableswitch dflt lo hi offs, len)) (h : x.toInt < lo ∨ hi < x.toInt) (ht : (pc : Int) + dflt = (tgt : Int)) (k : xV G Y Tb o tgt xl st T R L I) : xV G Y Tb o pc xl (.int x :: st) T R L I :=
  fun p l e Rm s m args below meth c H locs Q ls hF hRm hl hn hR hS hE => lv_tableOut hF.1 hF.2.1 hd h ht (k p l e Rm s m args below meth c H locs Q ls hF hRm hl hn hR hS hE)
theorem xV_ldc2 {idx : Nat} {v : Int64} (hd : decode Y.2.1 pc = .ok (.ldc2_w idx, 3) ∧ pc + 3 = pc') (hc : Cond.constantLong Y.1.cls idx v ∈ xW) (k : xV G Y Tb o pc' xl (.long v :: st) T R L I) : xV G Y Tb o pc xl st T R L I := by
  obtain ⟨hd, rfl⟩ := hd
  exact fun p l e Rm s m args below meth c H locs Q ls hF hRm hl hn hR hS hE => lv_ldc2 hF.1 hF.2.1 hF.2.2.2.1 (hF.2.2.2.2.1 _ hc) hd (k p l e Rm s m args below meth c H locs Q ls hF hRm hl hn hR hS hE)
theorem xV_ldcw {idx : Nat} {v : Int32} (hd : decode Y.2.1 pc = .ok (.ldc_w idx, 3) ∧ pc + 3 = pc') (hc : Cond.constant Y.1.cls idx v ∈ xW) (k : xV G Y Tb o pc' xl (.int v :: st) T R L I) : xV G Y Tb o pc xl st T R L I := by
  obtain ⟨hd, rfl⟩ := hd
  exact fun p l e Rm s m args below meth c H locs Q ls hF hRm hl hn hR hS hE => lv_ldcw hF.1 hF.2.1 hF.2.2.2.1 (hF.2.2.2.2.1 _ hc) hd (k p l e Rm s m args below meth c H locs Q ls hF hRm hl hn hR hS hE)
/-- fewer known locals -/
def xsub : List (Option Value) → List (Option Value) → Prop
  | [], [] => True
  | none :: a, _ :: b => xsub a b
  | some v :: a, w :: b => w = some v ∧ xsub a b
  | _, _ => False
theorem xsub_ok : ∀ (a b : List (Option Value)), xsub a b → a.length = b.length ∧ ∀ (i : Nat) (v : Value), a[i]? = some (some v) → b[i]? = some (some v) := by
  intro a
  induction a with
  | nil =>
    intro b h
    cases b with
    | nil => exact ⟨rfl, fun i v h => h⟩
    | cons _ _ => exact h.elim
  | cons x t ih =>
    intro b h
    cases b with
    | nil => cases x <;> exact h.elim
    | cons y u =>
      cases x with
      | none =>
        obtain ⟨h1, h2⟩ := ih u h
        refine ⟨by simp [h1], fun i v hi => ?_⟩
        cases i with
        | zero => simp at hi
        | succ i => simpa using h2 i v (by simpa using hi)
      | some w =>
        obtain ⟨e, h⟩ := h
        obtain ⟨h1, h2⟩ := ih u h
        refine ⟨by simp [h1], fun i v hi => ?_⟩
        cases i with
        | zero => simp at hi; subst hi; simp [e]
        | succ i => simpa using h2 i v (by simpa using hi)
theorem xV_sub {xl' : List (Option Value)} (h : xsub xl' xl) (k : xV G Y Tb o pc xl' st T R L I) : xV G Y Tb o pc xl st T R L I := by
  obtain ⟨h1, h2⟩ := xsub_ok _ _ h
  exact fun p l e Rm s m args below meth c H locs Q ls hF hRm hl hn hR hS hE => k p l e Rm s m args below meth c H locs Q ls hF hRm (xl_le hl (fun q hq => by obtain ⟨j, e1, e2⟩ := (xe_mem _ 0 q).mp hq; exact (xe_mem _ 0 q).mpr ⟨j, e1, h2 _ _ e2⟩)) (h1.trans hn) hR hS hE
-- ===== memory =====
def xFL (own : String) (idx ci k kd : Nat) : Prop := Cond.fieldLink own idx (xct ci k).1 (xct ci k).2.1 (xct ci k).2.2.1 ∈ xW ∧ ci < 4 ∧ k < xnf ci ∧ xfk ci k = kd
def xFP (own : String) (idx ci k kd : Nat) (fin : Bool) (ty : FieldType) : Prop := xFL own idx ci k kd ∧ (xct ci k).2.2.2 = fin ∧ xcy ci k = ty
theorem xin {ci : Nat} (h : ci < 4) : ∀ w ∈ u_ws (xcn ci) (xct ci) (xnf ci), w ∈ xW := by
  match ci, h with
  | 0, _ => exact xin0
  | 1, _ => exact xin1
  | 2, _ => exact xin2
  | 3, _ => exact xin3
theorem xfs_at {ci k : Nat} {r : Nat → Option Nat} {l : Nat → Int64} {i : Nat → Int32} (h : k < xnf ci) : ((List.range (xnf ci)).map (fun k => xfv ci k r l i))[k]? = some (xfv ci k r l i) := by simp [h]
theorem xhas {G : xG} {T : xT} {R : xR} {L : xL} {I : xI} {a ci : Nat} (hs : (xSh G T a).1 = ci) (h4 : ci < 4) : ∃ k : Nat, (va_pl (xads G T) (xE G T R L I))[k]? = some (a, .inr (ci, (List.range (xnf ci)).map (fun k => xfv ci k (R a) (L a) (I a)))) := by
  obtain ⟨q, hq⟩ := xpl_get (f := xE G T R L I) (xsh_in (G := G) (T := T) (a := a) (by rw [hs]; omega))
  exact ⟨q, by rw [hq]; unfold xE; rw [xmk_obj hs h4]⟩
theorem xhasA {G : xG} {T : xT} {R : xR} {L : xL} {I : xI} {a n : Nat} (hs : xSh G T a = (4, n)) : ∃ k : Nat, (va_pl (xads G T) (xE G T R L I))[k]? = some (a, .inl (G.2.1.1, n, .inl (I a))) := by
  obtain ⟨q, hq⟩ := xpl_get (f := xE G T R L I) (xsh_in (G := G) (T := T) (a := a) (by simp [hs]))
  exact ⟨q, by rw [hq]; unfold xE; rw [hs]; rfl⟩
theorem xhasZ {G : xG} {T : xT} {R : xR} {L : xL} {I : xI} {a n : Nat} (hs : xSh G T a = (5, n)) : ∃ k : Nat, (va_pl (xads G T) (xE G T R L I))[k]? = some (a, .inl (G.2.1.2.1, n, .inl (I a))) := by
  obtain ⟨q, hq⟩ := xpl_get (f := xE G T R L I) (xsh_in (G := G) (T := T) (a := a) (by simp [hs]))
  exact ⟨q, by rw [hq]; unfold xE; rw [hs]; rfl⟩
theorem xhasQ {G : xG} {T : xT} {R : xR} {L : xL} {I : xI} {a n : Nat} (hs : xSh G T a = (6, n)) : ∃ k : Nat, (va_pl (xads G T) (xE G T R L I))[k]? = some (a, .inl (G.2.1.2.2, n, .inr (.inr (.inr (.inr (R a)))))) := by
  obtain ⟨q, hq⟩ := xpl_get (f := xE G T R L I) (xsh_in (G := G) (T := T) (a := a) (by simp [hs]))
  exact ⟨q, by rw [hq]; unfold xE; rw [hs]; rfl⟩
def xst (I : xI) (a k : Nat) (x : Int32) : xI := va_up I a (upd (I a) k x)
def xsl (L : xL) (a k : Nat) (x : Int64) : xL := va_up L a (va_up (L a) k x)
def xsr (R : xR) (a k : Nat) (x : Nat) : xR := va_up R a (va_up (R a) k (some x))
theorem xV_getI {a ci k0 idx : Nat}  (hd : decode Y.2.1 pc = .ok (.getfield idx, 3) ∧ pc + 3 = pc') (hf : xFL Y.1.cls idx ci k0 0) (hs : (xSh G T a).1 = ci)  (k : xV G Y Tb o pc' xl (.int (I a k0) :: st) T R L I) : xV G Y Tb o pc xl (.ref a :: st) T R L I := by
  obtain ⟨hd, rfl⟩ := hd
  obtain ⟨hw, h4, hk, hkd⟩ := hf
  intro p l e Rm s m args below meth c H locs Q ls hF hRm hl hn hR hS hE
  obtain ⟨q0, hq⟩ := xhas (R := R) (L := L) (I := I) hs h4
  exact va_get hF.1 hF.2.1 hF.2.2.2.2.1 (xin h4) hF.2.2.2.1 hF.2.2.2.2.2.2.2.2.1 hR.2 q0 hq (xcl h4) k0 hk (hF.2.2.2.2.1 _ hw) (fun _ h => h) (by rw [xfs_at hk]; simp only [xfv, hkd]) hd (k p l e Rm s m args below meth c H locs Q ls hF hRm hl hn hR hS hE)
theorem xV_getL {a ci k0 idx : Nat}  (hd : decode Y.2.1 pc = .ok (.getfield idx, 3) ∧ pc + 3 = pc') (hf : xFL Y.1.cls idx ci k0 1) (hs : (xSh G T a).1 = ci)  (k : xV G Y Tb o pc' xl (.long (L a k0) :: st) T R L I) : xV G Y Tb o pc xl (.ref a :: st) T R L I := by
  obtain ⟨hd, rfl⟩ := hd
  obtain ⟨hw, h4, hk, hkd⟩ := hf
  intro p l e Rm s m args below meth c H locs Q ls hF hRm hl hn hR hS hE
  obtain ⟨q0, hq⟩ := xhas (R := R) (L := L) (I := I) hs h4
  exact va_get hF.1 hF.2.1 hF.2.2.2.2.1 (xin h4) hF.2.2.2.1 hF.2.2.2.2.2.2.2.2.1 hR.2 q0 hq (xcl h4) k0 hk (hF.2.2.2.2.1 _ hw) (fun _ h => h) (by rw [xfs_at hk]; simp only [xfv, hkd]) hd (k p l e Rm s m args below meth c H locs Q ls hF hRm hl hn hR hS hE)
theorem xV_getR {a ci k0 idx : Nat} {b : Nat} (hd : decode Y.2.1 pc = .ok (.getfield idx, 3) ∧ pc + 3 = pc') (hf : xFL Y.1.cls idx ci k0 2) (hs : (xSh G T a).1 = ci) (hb : R a k0 = some b) (k : xV G Y Tb o pc' xl (.ref b :: st) T R L I) : xV G Y Tb o pc xl (.ref a :: st) T R L I := by
  obtain ⟨hd, rfl⟩ := hd
  obtain ⟨hw, h4, hk, hkd⟩ := hf
  intro p l e Rm s m args below meth c H locs Q ls hF hRm hl hn hR hS hE
  obtain ⟨q0, hq⟩ := xhas (R := R) (L := L) (I := I) hs h4
  exact va_get hF.1 hF.2.1 hF.2.2.2.2.1 (xin h4) hF.2.2.2.1 hF.2.2.2.2.2.2.2.2.1 hR.2 q0 hq (xcl h4) k0 hk (hF.2.2.2.2.1 _ hw) (fun _ h => h) (by rw [xfs_at hk]; simp only [xfv, hkd, hb, va_rf]) hd (k p l e Rm s m args below meth c H locs Q ls hF hRm hl hn hR hS hE)
theorem xrange_set {N k0 : Nat} {f g : Nat → Value} (h : ∀ k, k ≠ k0 → f k = g k) : ((List.range N).map f).set k0 (g k0) = (List.range N).map g := by
  apply List.ext_getElem?
  intro i
  by_cases hi : k0 = i
  · subst hi
    by_cases hl : k0 < N
    · rw [List.getElem?_set_self (by simpa using hl)]
      simp [hl]
    · rw [List.getElem?_eq_none (by simp; omega), List.getElem?_eq_none (by simp; omega)]
  · rw [List.getElem?_set_ne hi]
    by_cases hl : i < N
    · simp [hl, h i (Ne.symm hi)]
    · rw [List.getElem?_eq_none (by simp; omega), List.getElem?_eq_none (by simp; omega)]
theorem xE_stI {G : xG} {T : xT} {R : xR} {L : xL} {I : xI} {a ci k0 : Nat} {x : Int32} (hs : (xSh G T a).1 = ci) (h4 : ci < 4) (hkd : xfk ci k0 = 0) (b : Nat) :
    va_up (xE G T R L I) a (.inr (ci, ((List.range (xnf ci)).map (fun k => xfv ci k (R a) (L a) (I a))).set k0 (.int x))) b = xE G T R L (xst I a k0 x) b := by
  by_cases hb : b = a
  · subst hb
    rw [show (Value.int x) = (fun k => xfv ci k (R b) (L b) (upd (I b) k0 x)) k0 by simp [xfv, hkd, upd],
      xrange_set (g := fun k => xfv ci k (R b) (L b) (upd (I b) k0 x)) (fun k hk => by simp only [xfv, upd]; split <;> simp [hk])]
    simp only [va_up, if_true, xE, xst]
    rw [xmk_obj hs h4]
  · simp [va_up, hb, xE, xst]
theorem xE_stL {G : xG} {T : xT} {R : xR} {L : xL} {I : xI} {a ci k0 : Nat} {x : Int64} (hs : (xSh G T a).1 = ci) (h4 : ci < 4) (hkd : xfk ci k0 = 1) (b : Nat) :
    va_up (xE G T R L I) a (.inr (ci, ((List.range (xnf ci)).map (fun k => xfv ci k (R a) (L a) (I a))).set k0 (.long x))) b = xE G T R (xsl L a k0 x) I b := by
  by_cases hb : b = a
  · subst hb
    rw [show (Value.long x) = (fun k => xfv ci k (R b) (va_up (L b) k0 x) (I b)) k0 by simp [xfv, hkd, va_up],
      xrange_set (g := fun k => xfv ci k (R b) (va_up (L b) k0 x) (I b)) (fun k hk => by simp only [xfv, va_up]; split <;> simp [hk])]
    simp only [va_up, if_true, xE, xsl]
    rw [xmk_obj hs h4]
  · simp [va_up, hb, xE, xsl]
theorem xE_stR {G : xG} {T : xT} {R : xR} {L : xL} {I : xI} {a ci k0 : Nat} {x : Nat} (hs : (xSh G T a).1 = ci) (h4 : ci < 4) (hkd : xfk ci k0 = 2) (b : Nat) :
    va_up (xE G T R L I) a (.inr (ci, ((List.range (xnf ci)).map (fun k => xfv ci k (R a) (L a) (I a))).set k0 (.ref x))) b = xE G T (xsr R a k0 x) L I b := by
  by_cases hb : b = a
  · subst hb
    rw [show (Value.ref x) = (fun k => xfv ci k (va_up (R b) k0 (some x)) (L b) (I b)) k0 by simp [xfv, hkd, va_up, va_rf],
      xrange_set (g := fun k => xfv ci k (va_up (R b) k0 (some x)) (L b) (I b)) (fun k hk => by simp only [xfv, va_up]; split <;> simp [hk])]
    simp only [va_up, if_true, xE, xsr]
    rw [xmk_obj hs h4]
  · simp [va_up, hb, xE, xsr]
theorem xE_stA {G : xG} {T : xT} {R : xR} {L : xL} {I : xI} {a n k0 : Nat} {x : Int32} (hs : xSh G T a = (4, n)) (b : Nat) :
    va_up (xE G T R L I) a (.inl (G.2.1.1, n, .inl (upd (I a) k0 x))) b = xE G T R L (xst I a k0 x) b := by
  by_cases hb : b = a
  · subst hb
    simp only [va_up, if_true, xE, xst, hs, xmk]
  · simp [va_up, hb, xE, xst]
theorem xE_stZ {G : xG} {T : xT} {R : xR} {L : xL} {I : xI} {a n k0 : Nat} {x : Int32} (hs : xSh G T a = (5, n)) (b : Nat) :
    va_up (xE G T R L I) a (.inl (G.2.1.2.1, n, .inl (upd (I a) k0 x))) b = xE G T R L (xst I a k0 x) b := by
  by_cases hb : b = a
  · subst hb
    simp only [va_up, if_true, xE, xst, hs, xmk]
  · simp [va_up, hb, xE, xst]
theorem xE_stQ {G : xG} {T : xT} {R : xR} {L : xL} {I : xI} {a n k0 x : Nat} (hs : xSh G T a = (6, n)) (b : Nat) :
    va_up (xE G T R L I) a (.inl (G.2.1.2.2, n, .inr (.inr (.inr (.inr (va_up (R a) k0 (some x))))))) b = xE G T (xsr R a k0 x) L I b := by
  by_cases hb : b = a
  · subst hb
    simp only [va_up, if_true, xE, xsr, hs, xmk]
  · simp [va_up, hb, xE, xsr]
/-- behind a store: the world is that of the new memory -/
theorem xRp_set {G : xG} {T : xT} {R R' : xR} {L L' : xL} {I I' : xI} {a q0 : Nat} {e : va_E} {H H1 : Heap} (hR : xRp G T R L I H) (hz : H.size ≤ H1.size) (hq : (va_pl (xads G T) (xE G T R L I))[q0]? = some (a, xE G T R L I a)) (ha : a ∈ xads G T)
    (h : va_P G.1 vwCl ((va_pl (xads G T) (xE G T R L I)).set q0 (a, e)) H1) (he : ∀ b, va_up (xE G T R L I) a e b = xE G T R' L' I' b) : xRp G T R' L' I' H1 := by
  rw [xpl_set (xD_ok G T _) ha hq, va_pl_congr he] at h
  exact ⟨Nat.le_trans hR.1 hz, h⟩
theorem xS_le {A : Nat → Prop} {H H1 : Heap} {locs : List Loc} (h : va_S A H H1 locs) : H.size ≤ H1.size := h.1
/-- two steps of what stays -/
theorem xS_tr {A : Nat → Prop} {H0 H H1 : Heap} {l1 l2 : List Loc} (h : va_S A H0 H l1) (h2 : va_S A H H1 l2) : va_S A H0 H1 l2 :=
  ⟨Nat.le_trans h.1 h2.1, fun q a b => (h2.2.1 q (Nat.lt_of_lt_of_le a h.1) b).trans (h.2.1 q a b), h2.2.2⟩
theorem xV_putI {a ci k0 idx : Nat} {x : Int32} (hd : decode Y.2.1 pc = .ok (.putfield idx, 3) ∧ pc + 3 = pc') (hf : xFP Y.1.cls idx ci k0 0 false .int) (hs : (xSh G T a).1 = ci)  (k : xV G Y Tb o pc' xl st T R L (xst I a k0 x)) : xV G Y Tb o pc xl (.int x :: .ref a :: st) T R L I := by
  obtain ⟨hd, rfl⟩ := hd
  obtain ⟨⟨hw, h4, hk, hkd⟩, hfin, hty⟩ := hf
  intro p l e Rm s m args below meth c H locs Q ls hF hRm hl hn hR hS hE
  obtain ⟨q0, hq⟩ := xhas (R := R) (L := L) (I := I) hs h4
  have ha : a ∈ xads G T := xsh_in (by rw [hs]; omega)
  have hq' : (va_pl (xads G T) (xE G T R L I))[q0]? = some (a, xE G T R L I a) := by rw [hq]; unfold xE; rw [xmk_obj hs h4]
  refine va_put (A := xA G) (H0 := H) hF.1 hF.2.1 hF.2.2.2.2.1 (xin h4) (xcy ci) (xcy_ok h4) (xcy_nm h4) hF.2.2.2.1 hF.2.2.2.2.2.2.2.2.1 hR.2 (xD_ok G T _) ⟨Nat.le_refl _, fun _ _ _ => rfl, hS.2.2⟩ q0 hq (xcl h4) k0 hk (hF.2.2.2.2.1 _ hw) (fun _ h => h) hfin (by rw [xcy_ok h4 k0 hk, hty]) rfl rfl (by simpa using hk) hd (fun H1 locs1 hP1 hD1 hS1 => ?_)
  exact k p l e Rm s m args below meth c H1 locs1 Q ls hF hRm hl hn (xRp_set hR hS1.1 hq' ha hP1 (xE_stI hs h4 hkd)) (xS_tr hS hS1) hE
theorem xV_putL {a ci k0 idx : Nat} {x : Int64} (hd : decode Y.2.1 pc = .ok (.putfield idx, 3) ∧ pc + 3 = pc') (hf : xFP Y.1.cls idx ci k0 1 false .long) (hs : (xSh G T a).1 = ci)  (k : xV G Y Tb o pc' xl st T R (xsl L a k0 x) I) : xV G Y Tb o pc xl (.long x :: .ref a :: st) T R L I := by
  obtain ⟨hd, rfl⟩ := hd
  obtain ⟨⟨hw, h4, hk, hkd⟩, hfin, hty⟩ := hf
  intro p l e Rm s m args below meth c H locs Q ls hF hRm hl hn hR hS hE
  obtain ⟨q0, hq⟩ := xhas (R := R) (L := L) (I := I) hs h4
  have ha : a ∈ xads G T := xsh_in (by rw [hs]; omega)
  have hq' : (va_pl (xads G T) (xE G T R L I))[q0]? = some (a, xE G T R L I a) := by rw [hq]; unfold xE; rw [xmk_obj hs h4]
  refine va_put (A := xA G) (H0 := H) hF.1 hF.2.1 hF.2.2.2.2.1 (xin h4) (xcy ci) (xcy_ok h4) (xcy_nm h4) hF.2.2.2.1 hF.2.2.2.2.2.2.2.2.1 hR.2 (xD_ok G T _) ⟨Nat.le_refl _, fun _ _ _ => rfl, hS.2.2⟩ q0 hq (xcl h4) k0 hk (hF.2.2.2.2.1 _ hw) (fun _ h => h) hfin (by rw [xcy_ok h4 k0 hk, hty]) rfl rfl (by simpa using hk) hd (fun H1 locs1 hP1 hD1 hS1 => ?_)
  exact k p l e Rm s m args below meth c H1 locs1 Q ls hF hRm hl hn (xRp_set hR hS1.1 hq' ha hP1 (xE_stL hs h4 hkd)) (xS_tr hS hS1) hE
theorem xV_putRF {a ci k0 idx : Nat} {x : Nat} {ty : FieldType} (hd : decode Y.2.1 pc = .ok (.putfield idx, 3) ∧ pc + 3 = pc') (hf : xFP Y.1.cls idx ci k0 2 true ty) (hs : (xSh G T a).1 = ci) (hr : narrow ty (.ref x) = .ref x) (hft : fits ty (.ref x) = true) (hini : Y.1.name = "<init>") (hdecl : ((xct ci) k0).1 = Y.1.cls) (k : xV G Y Tb o pc' xl st T (xsr R a k0 x) L I) : xV G Y Tb o pc xl (.ref x :: .ref a :: st) T R L I := by
  obtain ⟨hd, rfl⟩ := hd
  obtain ⟨⟨hw, h4, hk, hkd⟩, hfin, hty⟩ := hf
  intro p l e Rm s m args below meth c H locs Q ls hF hRm hl hn hR hS hE
  obtain ⟨q0, hq⟩ := xhas (R := R) (L := L) (I := I) hs h4
  have ha : a ∈ xads G T := xsh_in (by rw [hs]; omega)
  have hq' : (va_pl (xads G T) (xE G T R L I))[q0]? = some (a, xE G T R L I a) := by rw [hq]; unfold xE; rw [xmk_obj hs h4]
  refine va_putF (A := xA G) (H0 := H) hF.1 hF.2.1 hF.2.2.2.2.1 (xin h4) (xcy ci) (xcy_ok h4) (xcy_nm h4) hF.2.2.2.1 hF.2.2.2.2.2.2.2.2.1 hR.2 (xD_ok G T _) ⟨Nat.le_refl _, fun _ _ _ => rfl, hS.2.2⟩ q0 hq (xcl h4) k0 hk (hF.2.2.2.2.1 _ hw) (fun _ h => h) hfin (hF.2.2.2.2.2.1 hini) hdecl (by rw [xcy_ok h4 k0 hk, hty]) hr hft (by simpa using hk) hd (fun H1 locs1 hP1 hD1 hS1 => ?_)
  exact k p l e Rm s m args below meth c H1 locs1 Q ls hF hRm hl hn (xRp_set hR hS1.1 hq' ha hP1 (xE_stR hs h4 hkd)) (xS_tr hS hS1) hE
-- rows
def xRow (G : xG) (T : xT) (I : xI) (a n : Nat) (f : Nat → Int32) : Prop :=
  (xSh G T a = (4, n) ∧ f = I a) ∨ (a = G.2.2.2.1 ∧ n = 12 ∧ f = xnear) ∨ (a = G.2.2.2.2.1 ∧ n = G.2.2.2.2.2.1 ∧ f = G.2.2.2.2.2.2)
theorem xRow.of {a n : Nat} (h : xSh G T a = (4, n)) : xRow G T I a n (I a) := Or.inl ⟨h, rfl⟩
theorem xRow.near : xRow G T I G.2.2.2.1 12 xnear := Or.inr (Or.inl ⟨rfl, rfl, rfl⟩)
theorem xRow.scr : xRow G T I G.2.2.2.2.1 G.2.2.2.2.2.1 G.2.2.2.2.2.2 := Or.inr (Or.inr ⟨rfl, rfl, rfl⟩)
theorem xV_iald {a n : Nat} {f : Nat → Int32} {i : Int32} (hd : decode Y.2.1 pc = .ok (.iaload, 1) ∧ pc + 1 = pc') (hr : xRow G T I a n f) (hin : vp_in i n) (k : xV G Y Tb o pc' xl (.int (f i.toNatClampNeg) :: st) T R L I) : xV G Y Tb o pc xl (.int i :: .ref a :: st) T R L I := by
  obtain ⟨hd, rfl⟩ := hd
  intro p l e Rm s m args below meth c H locs Q ls hF hRm hl hn hR hS hE
  rcases hr with ⟨hs, rfl⟩ | ⟨rfl, rfl, rfl⟩ | ⟨rfl, rfl, rfl⟩
  · obtain ⟨q0, hq⟩ := xhasA (R := R) (L := L) (I := I) hs
    exact va_iald hF.1 hF.2.1 hF.2.2.2.2.2.2.2.2.1 hR.2 q0 0 hq rfl hin hd (k p l e Rm s m args below meth c H locs Q ls hF hRm hl hn hR hS hE)
  · exact va_ti hF.1 hF.2.1 hF.2.2.2.2.2.2.2.2.2.2.1 hS hin rfl hd (k p l e Rm s m args below meth c H locs Q ls hF hRm hl hn hR hS hE)
  · exact va_ti hF.1 hF.2.1 hF.2.2.2.2.2.2.2.2.2.2.2.1 hS hin rfl hd (k p l e Rm s m args below meth c H locs Q ls hF hRm hl hn hR hS hE)
theorem xV_alen {a n : Nat} {f : Nat → Int32} {v : Int32} (hd : decode Y.2.1 pc = .ok (.arraylength, 1) ∧ pc + 1 = pc') (hr : xRow G T I a n f) (hv : Int32.ofNat n = v) (k : xV G Y Tb o pc' xl (.int v :: st) T R L I) : xV G Y Tb o pc xl (.ref a :: st) T R L I := by
  obtain ⟨hd, rfl⟩ := hd
  intro p l e Rm s m args below meth c H locs Q ls hF hRm hl hn hR hS hE
  rcases hr with ⟨hs, rfl⟩ | ⟨rfl, rfl, rfl⟩ | ⟨rfl, rfl, rfl⟩
  · obtain ⟨q0, hq⟩ := xhasA (R := R) (L := L) (I := I) hs
    exact va_alen hF.1 hF.2.1 hF.2.2.2.2.2.2.2.2.1 hR.2 q0 0 hq rfl hv hd (k p l e Rm s m args below meth c H locs Q ls hF hRm hl hn hR hS hE)
  · exact va_tlen hF.1 hF.2.1 hF.2.2.2.2.2.2.2.2.2.2.1 hS hv hd (k p l e Rm s m args below meth c H locs Q ls hF hRm hl hn hR hS hE)
  · exact va_tlen hF.1 hF.2.1 hF.2.2.2.2.2.2.2.2.2.2.2.1 hS hv hd (k p l e Rm s m args below meth c H locs Q ls hF hRm hl hn hR hS hE)
theorem xV_alenQ {a n : Nat} {v : Int32} (hd : decode Y.2.1 pc = .ok (.arraylength, 1) ∧ pc + 1 = pc') (hs : xSh G T a = (6, n)) (hv : Int32.ofNat n = v) (k : xV G Y Tb o pc' xl (.int v :: st) T R L I) : xV G Y Tb o pc xl (.ref a :: st) T R L I := by
  obtain ⟨hd, rfl⟩ := hd
  intro p l e Rm s m args below meth c H locs Q ls hF hRm hl hn hR hS hE
  obtain ⟨q0, hq⟩ := xhasQ (R := R) (L := L) (I := I) hs
  exact va_alen hF.1 hF.2.1 hF.2.2.2.2.2.2.2.2.1 hR.2 q0 2 hq rfl hv hd (k p l e Rm s m args below meth c H locs Q ls hF hRm hl hn hR hS hE)
theorem xV_iast {a n : Nat} {i x : Int32} (hd : decode Y.2.1 pc = .ok (.iastore, 1) ∧ pc + 1 = pc') (hs : xSh G T a = (4, n)) (hin : vp_in i n) (k : xV G Y Tb o pc' xl st T R L (xst I a i.toNatClampNeg x)) : xV G Y Tb o pc xl (.int x :: .int i :: .ref a :: st) T R L I := by
  obtain ⟨hd, rfl⟩ := hd
  intro p l e Rm s m args below meth c H locs Q ls hF hRm hl hn hR hS hE
  obtain ⟨q0, hq⟩ := xhasA (R := R) (L := L) (I := I) hs
  have ha : a ∈ xads G T := xsh_in (by simp [hs])
  have hq' : (va_pl (xads G T) (xE G T R L I))[q0]? = some (a, xE G T R L I a) := by rw [hq]; unfold xE; rw [hs]; rfl
  refine va_iast (A := xA G) (H0 := H) hF.1 hF.2.1 hF.2.2.2.2.2.2.2.2.1 hR.2 (xD_ok G T _) ⟨Nat.le_refl _, fun _ _ _ => rfl, hS.2.2⟩ q0 0 hq rfl hin hd (fun H1 locs1 hP1 hD1 hS1 => ?_)
  exact k p l e Rm s m args below meth c H1 locs1 Q ls hF hRm hl hn (xRp_set hR hS1.1 hq' ha hP1 (xE_stA hs)) (xS_tr hS hS1) hE
theorem xV_bald {a n : Nat} {i : Int32} (hd : decode Y.2.1 pc = .ok (.baload, 1) ∧ pc + 1 = pc') (hs : xSh G T a = (5, n)) (hin : vp_in i n) (k : xV G Y Tb o pc' xl (.int (I a i.toNatClampNeg) :: st) T R L I) : xV G Y Tb o pc xl (.int i :: .ref a :: st) T R L I := by
  obtain ⟨hd, rfl⟩ := hd
  intro p l e Rm s m args below meth c H locs Q ls hF hRm hl hn hR hS hE
  obtain ⟨q0, hq⟩ := xhasZ (R := R) (L := L) (I := I) hs
  exact va_zald hF.1 hF.2.1 hF.2.2.2.2.2.2.2.2.1 hR.2 q0 1 hq rfl hin hd (k p l e Rm s m args below meth c H locs Q ls hF hRm hl hn hR hS hE)
theorem xV_bast {a n : Nat} {i x : Int32} (hd : decode Y.2.1 pc = .ok (.bastore, 1) ∧ pc + 1 = pc') (hs : xSh G T a = (5, n)) (hin : vp_in i n) (hx : vp_nar .boolean x = x) (k : xV G Y Tb o pc' xl st T R L (xst I a i.toNatClampNeg x)) : xV G Y Tb o pc xl (.int x :: .int i :: .ref a :: st) T R L I := by
  obtain ⟨hd, rfl⟩ := hd
  intro p l e Rm s m args below meth c H locs Q ls hF hRm hl hn hR hS hE
  obtain ⟨q0, hq⟩ := xhasZ (R := R) (L := L) (I := I) hs
  have ha : a ∈ xads G T := xsh_in (by simp [hs])
  have hq' : (va_pl (xads G T) (xE G T R L I))[q0]? = some (a, xE G T R L I a) := by rw [hq]; unfold xE; rw [hs]; rfl
  refine va_zast (A := xA G) (H0 := H) hF.1 hF.2.1 hF.2.2.2.2.2.2.2.2.1 hR.2 (xD_ok G T _) ⟨Nat.le_refl _, fun _ _ _ => rfl, hS.2.2⟩ q0 1 hq rfl hin hd (fun H1 locs1 hP1 hD1 hS1 => ?_)
  rw [hx] at hP1
  exact k p l e Rm s m args below meth c H1 locs1 Q ls hF hRm hl hn (xRp_set hR hS1.1 hq' ha hP1 (xE_stZ hs)) (xS_tr hS hS1) hE
theorem xV_aald {a n b : Nat} {i : Int32} (hd : decode Y.2.1 pc = .ok (.aaload, 1) ∧ pc + 1 = pc') (hs : xSh G T a = (6, n)) (hin : vp_in i n) (hb : R a i.toNatClampNeg = some b) (k : xV G Y Tb o pc' xl (.ref b :: st) T R L I) : xV G Y Tb o pc xl (.int i :: .ref a :: st) T R L I := by
  obtain ⟨hd, rfl⟩ := hd
  intro p l e Rm s m args below meth c H locs Q ls hF hRm hl hn hR hS hE
  obtain ⟨q0, hq⟩ := xhasQ (R := R) (L := L) (I := I) hs
  refine va_aldq hF.1 hF.2.1 hF.2.2.2.2.2.2.2.2.1 hR.2 q0 2 hq rfl hin hd ?_
  rw [hb]
  exact k p l e Rm s m args below meth c H locs Q ls hF hRm hl hn hR hS hE
theorem xV_aast {a n b : Nat} {i : Int32} (hd : decode Y.2.1 pc = .ok (.aastore, 1) ∧ pc + 1 = pc') (hs : xSh G T a = (6, n)) (hin : vp_in i n) (hb : (xSh G T b).1 = 0) (k : xV G Y Tb o pc' xl st T (xsr R a i.toNatClampNeg b) L I) : xV G Y Tb o pc xl (.ref b :: .int i :: .ref a :: st) T R L I := by
  obtain ⟨hd, rfl⟩ := hd
  intro p l e Rm s m args below meth c H locs Q ls hF hRm hl hn hR hS hE
  obtain ⟨q0, hq⟩ := xhasQ (R := R) (L := L) (I := I) hs
  obtain ⟨q1, hq1⟩ := xhas (R := R) (L := L) (I := I) hb (by decide)
  have ha : a ∈ xads G T := xsh_in (by simp [hs])
  have hq' : (va_pl (xads G T) (xE G T R L I))[q0]? = some (a, xE G T R L I a) := by rw [hq]; unfold xE; rw [hs]; rfl
  refine va_astq (A := xA G) (H0 := H) (r := (RX0, TX0, 12)) hF.1 hF.2.1 hF.2.2.2.2.2.2.2.2.1 hR.2 (xD_ok G T _) ⟨Nat.le_refl _, fun _ _ _ => rfl, hS.2.2⟩ q0 2 q1 0 hq rfl hq1 rfl hin hd (fun H1 locs1 hP1 hD1 hS1 => ?_)
  exact k p l e Rm s m args below meth c H1 locs1 Q ls hF hRm hl hn (xRp_set hR hS1.1 hq' ha hP1 (xE_stQ hs)) (xS_tr hS hS1) hE
theorem xV_near {idx : Nat} (hd : decode Y.2.1 pc = .ok (.getstatic idx, 3) ∧ pc + 3 = pc') (hw : Cond.fieldLink Y.1.cls idx RX2 "NEAR" "[I" ∈ xW) (k : xV G Y Tb o pc' xl (.ref G.2.2.2.1 :: st) T R L I) : xV G Y Tb o pc xl st T R L I := by
  obtain ⟨hd, rfl⟩ := hd
  exact fun p l e Rm s m args below meth c H locs Q ls hF hRm hl hn hR hS hE => va_gets hF.1 hF.2.1 hF.2.2.2.2.2.2.2.2.2.1 hS hF.2.2.2.1 (hF.2.2.2.2.1 _ hw) (fun _ h => h) hd (k p l e Rm s m args below meth c H locs Q ls hF hRm hl hn hR hS hE)
theorem xV_nearN {idx : Nat} {host : String} (hd : decode Y.2.1 pc = .ok (.getstatic idx, 3) ∧ pc + 3 = pc') (hw : Cond.fieldLinkNest Y.1.cls idx RX2 "NEAR" "[I" host ∈ xnest) (k : xV G Y Tb o pc' xl (.ref G.2.2.2.1 :: st) T R L I) : xV G Y Tb o pc xl st T R L I := by
  obtain ⟨hd, rfl⟩ := hd
  exact fun p l e Rm s m args below meth c H locs Q ls hF hRm hl hn hR hS hE => va_getsN hF.1 hF.2.1 hF.2.2.2.2.2.2.2.2.2.1 hS hF.2.2.2.1 (va_Nw.use rfl (hF.2.2.2.2.2.2.2.2.2.2.2.2.1 _ hw)) (fun _ h => h) hd (k p l e Rm s m args below meth c H locs Q ls hF hRm hl hn hR hS hE)
/-- arraycopy between two int rows -/
theorem xV_acopy {a0 a n0 n1 idx : Nat} {sp dp n : Int32} (hd : decode Y.2.1 pc = .ok (.invokestatic idx, 3) ∧ pc + 3 = pc') (hw : Cond.methodLink Y.1.cls idx arraycopyName ∈ xW ∧ Cond.static arraycopyName ∈ xW ∧ Cond.initialized "java/lang/System" ∈ xW) (hnat : Cond.native arraycopyName ∈ xW) (hs0 : xSh G T a0 = (4, n0)) (hs1 : xSh G T a = (4, n1))
    (h1 : ¬ sp < 0) (h2 : ¬ dp < 0) (h3 : ¬ n < 0) (h4 : sp.toNatClampNeg + n.toNatClampNeg ≤ n0) (h5 : dp.toNatClampNeg + n.toNatClampNeg ≤ n1) (hfr : 1 ≤ Y.2.2.2.2.1) (hlo : (st.map fun v => v.category).sum + (nativeFrameWords "java/lang/System" "arraycopy" 5 + 11) ≤ Y.2.2.2.2.2)
    (k : xV G Y Tb o pc' xl st T R L (va_up I a (va_cpy (I a0) (I a) sp.toNatClampNeg dp.toNatClampNeg n.toNatClampNeg))) : xV G Y Tb o pc xl (.int n :: .int dp :: .ref a :: .int sp :: .ref a0 :: st) T R L I := by
  obtain ⟨hd, rfl⟩ := hd
  intro p l e Rm s m args below meth c H locs Q ls hF hRm hl hn hR hS hE
  obtain ⟨q0, hq0⟩ := xhasA (R := R) (L := L) (I := I) hs0
  obtain ⟨q1, hq1⟩ := xhasA (R := R) (L := L) (I := I) hs1
  have ha : a ∈ xads G T := xsh_in (by simp [hs1])
  have hq' : (va_pl (xads G T) (xE G T R L I))[q1]? = some (a, xE G T R L I a) := by rw [hq1]; unfold xE; rw [hs1]; rfl
  refine va_copyi (A := xA G) (H0 := H) (ty := .int) hF.1 hF.2.1 (hF.2.2.1.trans hl.1.symm) hF.2.2.2.1 (hF.2.2.2.2.1 _ hw.1) (hF.2.2.2.2.1 _ hnat) (hF.2.2.2.2.1 _ hw.2.1) (hF.2.2.2.2.1 _ hw.2.2) hF.2.2.2.2.2.2.2.2.1 hR.2 (xD_ok G T _) ⟨Nat.le_refl _, fun _ _ _ => rfl, hS.2.2⟩ q0 q1 0 0 hq0 hq1 rfl rfl rfl h1 h2 h3 h4 h5 (fun _ _ => rfl) (by rw [hRm.1]; exact hfr) (by rw [hRm.2.1]; exact hlo) hd (fun H1 locs1 hP1 hD1 hS1 => ?_)
  refine k p l e Rm s m args below meth c H1 locs1 Q ls hF hRm hl hn (xRp_set hR hS1.1 hq' ha hP1 (fun b => ?_)) (xS_tr hS hS1) hE
  by_cases hb : b = a
  · subst hb
    simp only [va_up, if_true, xE, hs1, xmk]
  · simp [va_up, hb, xE]
end XR
end
section
/-! CALLS, NEW CELLS, ENTRY AND END -/
def xent (vs : List Value) (n : Nat) : List (Option Value) :=
  let l := vs.flatMap (fun v => if v.category = 2 then [some v, none] else [some v])
  l ++ List.replicate (n - l.length) none
theorem xe_none : ∀ (k m : Nat), xe k (List.replicate m none) = [] := by
  intro k m
  induction m generalizing k with
  | zero => rfl
  | succ m ih => exact ih (k + 1)
theorem xe_ent : ∀ (vs : List Value) (k m : Nat), xe k (vs.flatMap (fun v => if v.category = 2 then [some v, none] else [some v]) ++ List.replicate m none) = lv_args k vs := by
  intro vs
  induction vs with
  | nil => intro k m; exact xe_none k m
  | cons v vs ih =>
    intro k m
    by_cases hc : v.category = 2
    · simp only [List.flatMap_cons, hc, if_true, List.cons_append, List.nil_append, lv_args]
      show (k, v) :: xe (k + 1 + 1) _ = _
      rw [ih]
    · simp only [List.flatMap_cons, hc, if_false, List.cons_append, List.nil_append, lv_args]
      show (k, v) :: xe (k + 1) _ = _
      rw [ih]
theorem xP_iff {D : va_G} {cl : List vw_C} {L : List Nat} {f : Nat → va_E} {H : Heap} : va_P D cl (va_pl L f) H ↔ ∀ a ∈ L, va_at D cl (a, f a) H := by
  constructor
  · intro h a ha
    obtain ⟨k, hk⟩ := xpl_get (f := f) ha
    exact h k _ hk
  · intro h k q hq
    obtain ⟨a, ha, rfl⟩ := List.mem_map.mp (List.mem_of_getElem? hq)
    exact h a ha
theorem xW_size {p : Program} {l : Launch} {e : Env} {R : Room} {s : State} {m : MethodId} {args : Array Value} {below : List Frame} {meth : Method} {c : Code} {H : Heap} {locs : List Loc} {cells slots : Nat} {Q : State → Prop} {g : JFrame}
    (k : H.size ≤ s.heap.size + cells → W p l e R s m args below meth c H locs cells slots Q g) : W p l e R s m args below meth c H locs cells slots Q g :=
  fun T hT X => k (by rw [← hT]; exact X.heapSize) T hT X
theorem xnest_warm {s U : State} (hW : s.WarmedH U.vm) (h : ∀ w ∈ xnest, va_Nw w s) : ∀ w ∈ xnest, va_Nw w U := by
  intro w hw
  have h1 := h w hw
  simp only [xnest, List.mem_cons, List.not_mem_nil, or_false] at hw
  rcases hw with rfl | rfl | rfl | rfl | rfl | rfl | rfl | rfl | rfl | rfl
  all_goals first | exact va_Nw.warmM hW h1 | exact va_Nw.warmF hW h1
theorem xCx.step {G : xG} {s U : State} {locs : List Loc} (hW : s.WarmedH U.vm) (hS : va_S (xA G) s.heap U.heap locs) (h : xCx G s) : xCx G U := by
  obtain ⟨h1, h2, h3, h4, h5, h6, h7⟩ := h
  exact ⟨Nat.le_trans h1 hS.1, h2.moved hW.alike, (h3.moved hW.alike).kept hS.2.1, (h4.moved hW.alike).kept hS.2.1, (h5.moved hW.alike).kept hS.2.1, xnest_warm hW h6, h7.moved hW.alike⟩
theorem xblind (G : xG) (av : List Value) (T : xT) (R : xR) (L : xL) (I : xI) : FrameBlind (va_Pc av (fun U => U.heap.size = G.2.2.1 + T.length ∧ xCx G U ∧ xRp G T R L I U.heap)) := by
  intro a U g mk h
  obtain ⟨h1, h2, h3, h4⟩ := h
  exact ⟨h1, h2, xCx.step (U := U.calling g mk a) (locs := []) (State.WarmedH.refl U) va_S.rf h3, h4⟩
theorem xgood {Y : xY} (h : Cond.code Y.1 Y.2.1 Y.2.2.1 Y.2.2.2.1 ∈ xW) : GoodIn xW (xws Y) := by
  have h1 : ∀ w ∈ xW, w ∈ xW ∧ ((w.onTables && w.keeps) = true ∨ ∃ ty, w = .arrayClass ty) := fun w hw => ⟨hw, good_of_word (List.mem_filter.mp hw).2⟩
  intro w hw
  rcases List.mem_cons.mp hw with rfl | hw
  · exact h1 _ h
  · exact h1 _ hw
/-- what a call's words say: the link (nest: under which host), the code, the number of arguments -/
def xCB (own : String) (idx : Nat) (Y : xY) (n : Nat) (nest : Option String) : Prop :=
  (match nest with | none => Cond.methodLink own idx Y.1 ∈ xW | some h => Cond.methodLinkNest own idx Y.1 h ∈ xnest) ∧ Cond.initialized Y.1.cls ∈ xW ∧ Cond.code Y.1 Y.2.1 Y.2.2.1 Y.2.2.2.1 ∈ xW ∧
  (Y.1.cls ≠ "java/lang/invoke/MethodHandle" ∧ Y.1.cls ≠ "java/lang/invoke/VarHandle" ∧ (parseMethodDescriptor Y.1.desc).map (fun d => d.parameters.length) = some n)
def xCS (own : String) (idx : Nat) (Y : xY) (n : Nat) (nest : Option String) : Prop := xCB own idx Y n nest ∧ Cond.static Y.1 ∈ xW
def xCI (own : String) (idx : Nat) (Y : xY) (n : Nat) (nest : Option String) : Prop := xCB own idx Y n nest ∧ Y.1.name = "<init>" ∧ Cond.instanceMethod Y.1 ∈ xW ∧ Y.2.2.2.1 = none
def xCV (own : String) (idx : Nat) (Y : xY) (n : Nat) (ci : Nat) : Prop := xCB own idx Y n none ∧ Cond.instanceMethod Y.1 ∈ xW ∧ Cond.selects Y.1.cls Y.1 Y.1 ∈ xW ∧ ci < 4 ∧ xcn ci = Y.1.cls
section XC
variable {G : xG} {Y Y' : xY} {Tb : xT} {o : xO} {pc pc' idx n : Nat} {xl : List (Option Value)} {st rest : List Value} {T T' : xT} {R R' : xR} {L L' : xL} {I I' : xI} {av : List Value} {P : Option Value → xR → xL → xI → Prop} {nest : Option String}
theorem xcall_go {p : Program} {l : Launch} {e : Env} {Rm : Room} {s : State} {m : MethodId} {args : Array Value} {below : List Frame} {meth : Method} {c : Code} {H : Heap} {locs : List Loc} {cells slots mc ms : Nat} {Q : State → Prop} {ls : Array Slot} {a : Array Value}
    (hrun : va_Run p l e Rm s m args below meth c H locs cells slots mc ms (F0 m pc ls st) rest (xQ (T', P) G a) (xA G)) (hS : va_S (xA G) s.heap H locs)
    (k : ∀ (v : Option Value) (R' : xR) (L' : xL) (I' : xI) (H1 : Heap) (locs1 : List Loc), P v R' L' I' → xRp G T' R' L' I' H1 → va_S (xA G) s.heap H1 locs1 → W p l e Rm s m args below meth c H1 locs1 (cells + mc) (slots + ms) Q (F0 m (pc + 3) ls (v.toList ++ rest))) : W p l e Rm s m args below meth c H locs cells slots Q (F0 m pc ls st) := by
  intro T0 hT X
  obtain ⟨v0, st₀, t, T1, L1, h0, X', hL, e1, e2, ⟨⟨v, R', L', I', hv, hp, hrp⟩, hz, hk⟩, hst⟩ := hrun T0 hT X
  have hv : v0 = v := by injection hv
  subst hv
  rw [h0] at hz hk
  obtain ⟨t2, a1, b1⟩ := k v0 R' L' I' T1.heap (locs ++ L1) hp (by rw [e1]; exact hrp)
    ⟨Nat.le_trans hS.1 (by rw [e1]; exact hz), fun q h1 h2 => by rw [e1, hk q (Nat.lt_of_lt_of_le h1 hS.1) h2]; exact hS.2.1 q h1 h2, fun q hq => by
      rcases List.mem_append.mp hq with h | h
      · exact hS.2.2 q h
      · exact hL q h⟩ T1 rfl X'
  exact ⟨t2, hst t2 a1, b1⟩
theorem xroom (h1 : xle Tb T) (h2 : xle T T') (h3 : xle T' o.1) {Rm : Room} (hc : o.1.length - Tb.length ≤ Rm.cells) (hs : xZ o.1 - xZ Tb ≤ Rm.slots) :
    (T.length - Tb.length + (T'.length - T.length) ≤ Rm.cells ∧ xZ T - xZ Tb + (xZ T' - xZ T) ≤ Rm.slots) ∧ T.length - Tb.length + (T'.length - T.length) = T'.length - Tb.length ∧ xZ T - xZ Tb + (xZ T' - xZ T) = xZ T' - xZ Tb := by
  obtain ⟨a1, b1⟩ := h1
  obtain ⟨a2, b2⟩ := h2
  obtain ⟨a3, b3⟩ := h3
  exact ⟨⟨by omega, by omega⟩, by omega, by omega⟩
theorem xpre {s : State} {H : Heap} {locs : List Loc} (hC : xCx G s) (hS : va_S (xA G) s.heap H locs) (hR : xRp G T R L I H) (hz : H.size = G.2.2.1 + T.length) : ∀ U : State, U.heap = H → s.WarmedH U.vm → va_Pc av (fun U => U.heap.size = G.2.2.1 + T.length ∧ xCx G U ∧ xRp G T R L I U.heap) av.toArray U :=
  fun U hU hW => ⟨rfl, by rw [hU]; exact hz, hC.step hW (by rw [hU]; exact hS), by rw [hU]; exact hR⟩
theorem xV_callS (hd : decode Y.2.1 pc = .ok (.invokestatic idx, 3) ∧ pc + 3 = pc') (hc : xCS Y.1.cls idx Y' n nest) (hcon : xCon G Y' av T R L I (T', P)) (hn : av.length = n) (hst : st = av.reverse ++ rest) (hcat : (rest.map fun v => v.category).sum ≤ 8)
    (hr : Y'.2.2.2.2.1 + 1 ≤ Y.2.2.2.2.1 ∧ 8 + (Y'.2.2.1 + 11) + Y'.2.2.2.2.2 ≤ Y.2.2.2.2.2) (h1 : xle Tb T) (h3 : xle T' o.1) (k : ∀ (v : Option Value) (R' : xR) (L' : xL) (I' : xI), P v R' L' I' → xV G Y Tb o pc' xl (v.toList ++ rest) T' R' L' I') : xV G Y Tb o pc xl st T R L I := by
  obtain ⟨hd, rfl⟩ := hd
  subst hst
  intro p l e Rm s m args below meth c H locs Q ls hF hRm hl hln hR hS hE
  obtain ⟨⟨hw, hini, hcode, hdd⟩, hstat⟩ := hc
  obtain ⟨hroom, hce, hse⟩ := xroom h1 hcon.1 h3 hRm.2.2.1 hRm.2.2.2
  refine xW_size (fun hz => ?_)
  have hz : H.size = G.2.2.1 + T.length := by have := hR.1; have := hF.2.2.2.2.2.2.1; have := h1.1; omega
  have hts := hF.2.2.2.2.1
  have hP := xpre (av := av) (R := R) (L := L) (I := I) hF.2.2.2.2.2.2.2 hS hR hz
  have kk : ∀ (v : Option Value) (R' : xR) (L' : xL) (I' : xI) (H1 : Heap) (locs1 : List Loc), P v R' L' I' → xRp G T' R' L' I' H1 → va_S (xA G) s.heap H1 locs1 → W p l e Rm s m args below meth c H1 locs1 (T.length - Tb.length + (T'.length - T.length)) (xZ T - xZ Tb + (xZ T' - xZ T)) Q (F0 m (pc + 3) ls (v.toList ++ rest)) := by
    intro v R' L' I' H1 locs1 q0 q1 q2
    rw [hce, hse]
    exact k v R' L' I' q0 p l e Rm s m args below meth c H1 locs1 Q ls hF hRm hl hln q1 q2 hE
  have hR2 : (Y'.2.2.2.2.1 + 1 ≤ Rm.frames ∧ 8 + (Y'.2.2.1 + 11) + Y'.2.2.2.2.2 ≤ Rm.locals) := by rw [hRm.1, hRm.2.1]; exact hr
  cases nest with
  | none =>
    refine xcall_go (va_runS (As := av) (rest := rest) ⟨hF.1, hF.2.1, hF.2.2.1, hF.2.2.2.1, hts⟩ (hcon.2 l) ⟨callB_of n hts (xgood hcode) rfl rfl rfl (hts _ hini) (hts _ hw) hdd hR2, hts _ hstat⟩ ⟨xblind G av T R L I, hP⟩ rfl hn hl.1 rfl (lv_room hcat) hd hroom) hS kk
  | some host =>
    refine xcall_go (va_runSN (As := av) (rest := rest) ⟨hF.1, hF.2.1, hF.2.2.1, hF.2.2.2.1, hts⟩ (hcon.2 l) ⟨va_cnB n hts (xgood hcode) rfl rfl rfl (hF.2.2.2.2.2.2.2.2.2.2.2.2.1 _ hw) (hts _ hini) hdd hR2, hts _ hstat, trivial⟩ ⟨xblind G av T R L I, hP⟩ rfl hn hl.1 rfl (lv_room hcat) hd hroom) hS kk
theorem xV_callI {b : Nat} (hd : decode Y.2.1 pc = .ok (.invokespecial idx, 3) ∧ pc + 3 = pc') (hc : xCI Y.1.cls idx Y' n nest) (hcon : xCon G Y' (.ref b :: av) T R L I (T', P)) (hn : av.length = n) (hst : st = av.reverse ++ .ref b :: rest) (hcat : (rest.map fun v => v.category).sum ≤ 8)
    (hr : Y'.2.2.2.2.1 + 1 ≤ Y.2.2.2.2.1 ∧ 8 + (Y'.2.2.1 + 11) + Y'.2.2.2.2.2 ≤ Y.2.2.2.2.2) (h1 : xle Tb T) (h3 : xle T' o.1) (k : ∀ (v : Option Value) (R' : xR) (L' : xL) (I' : xI), P v R' L' I' → xV G Y Tb o pc' xl (v.toList ++ rest) T' R' L' I') : xV G Y Tb o pc xl st T R L I := by
  obtain ⟨hd, rfl⟩ := hd
  subst hst
  intro p l e Rm s m args below meth c H locs Q ls hF hRm hl hln hR hS hE
  obtain ⟨⟨hw, hini, hcode, hdd⟩, hinit, hinst, hnone⟩ := hc
  obtain ⟨hroom, hce, hse⟩ := xroom h1 hcon.1 h3 hRm.2.2.1 hRm.2.2.2
  refine xW_size (fun hz => ?_)
  have hz : H.size = G.2.2.1 + T.length := by have := hR.1; have := hF.2.2.2.2.2.2.1; have := h1.1; omega
  have hts := hF.2.2.2.2.1
  have hP := xpre (av := .ref b :: av) (R := R) (L := L) (I := I) hF.2.2.2.2.2.2.2 hS hR hz
  have kk : ∀ (v : Option Value) (R' : xR) (L' : xL) (I' : xI) (H1 : Heap) (locs1 : List Loc), P v R' L' I' → xRp G T' R' L' I' H1 → va_S (xA G) s.heap H1 locs1 → W p l e Rm s m args below meth c H1 locs1 (T.length - Tb.length + (T'.length - T.length)) (xZ T - xZ Tb + (xZ T' - xZ T)) Q (F0 m (pc + 3) ls (v.toList ++ rest)) := by
    intro v R' L' I' H1 locs1 q0 q1 q2
    rw [hce, hse]
    exact k v R' L' I' q0 p l e Rm s m args below meth c H1 locs1 Q ls hF hRm hl hln q1 q2 hE
  have hR2 : (Y'.2.2.2.2.1 + 1 ≤ Rm.frames ∧ 8 + (Y'.2.2.1 + 11) + Y'.2.2.2.2.2 ≤ Rm.locals) := by rw [hRm.1, hRm.2.1]; exact hr
  have hG := xgood hcode
  rw [hnone] at hcode
  have hws : xws Y' = Cond.code Y'.1 Y'.2.1 Y'.2.2.1 none :: xW := by unfold xws; rw [hnone]
  cases nest with
  | none =>
    refine xcall_go (va_runI (As := av) (rest := rest) ⟨hF.1, hF.2.1, hF.2.2.1, hF.2.2.2.1, hts⟩ (hcon.2 l) ⟨callB_of n hts hG hws rfl rfl (hts _ hini) (hts _ hw) hdd hR2, hinit, hts _ hinst⟩ ⟨xblind G _ T R L I, hP⟩ rfl hn hl.1 rfl (lv_room hcat) hd hroom) hS kk
  | some host =>
    refine xcall_go (va_runIN (As := av) (rest := rest) ⟨hF.1, hF.2.1, hF.2.2.1, hF.2.2.2.1, hts⟩ (hcon.2 l) ⟨va_cnB n hts hG hws rfl rfl (hF.2.2.2.2.2.2.2.2.2.2.2.2.1 _ hw) (hts _ hini) hdd hR2, hinit, hts _ hinst⟩ ⟨xblind G _ T R L I, hP⟩ rfl hn hl.1 rfl (lv_room hcat) hd hroom) hS kk
theorem xV_callV {b ci : Nat} (hd : decode Y.2.1 pc = .ok (.invokevirtual idx, 3) ∧ pc + 3 = pc') (hc : xCV Y.1.cls idx Y' n ci) (hsh : (xSh G T b).1 = ci) (hcon : xCon G Y' (.ref b :: av) T R L I (T', P)) (hn : av.length = n) (hst : st = av.reverse ++ .ref b :: rest) (hcat : (rest.map fun v => v.category).sum ≤ 8)
    (hr : Y'.2.2.2.2.1 + 1 ≤ Y.2.2.2.2.1 ∧ 8 + (Y'.2.2.1 + 11) + Y'.2.2.2.2.2 ≤ Y.2.2.2.2.2) (h1 : xle Tb T) (h3 : xle T' o.1) (k : ∀ (v : Option Value) (R' : xR) (L' : xL) (I' : xI), P v R' L' I' → xV G Y Tb o pc' xl (v.toList ++ rest) T' R' L' I') : xV G Y Tb o pc xl st T R L I := by
  obtain ⟨hd, rfl⟩ := hd
  subst hst
  intro p l e Rm s m args below meth c H locs Q ls hF hRm hl hln hR hS hE
  obtain ⟨⟨hw, hini, hcode, hdd⟩, hinst, hsel, h4, hcn⟩ := hc
  obtain ⟨hroom, hce, hse⟩ := xroom h1 hcon.1 h3 hRm.2.2.1 hRm.2.2.2
  refine xW_size (fun hz => ?_)
  have hz : H.size = G.2.2.1 + T.length := by have := hR.1; have := hF.2.2.2.2.2.2.1; have := h1.1; omega
  have hts := hF.2.2.2.2.1
  have hP := xpre (av := .ref b :: av) (R := R) (L := L) (I := I) hF.2.2.2.2.2.2.2 hS hR hz
  have kk : ∀ (v : Option Value) (R' : xR) (L' : xL) (I' : xI) (H1 : Heap) (locs1 : List Loc), P v R' L' I' → xRp G T' R' L' I' H1 → va_S (xA G) s.heap H1 locs1 → W p l e Rm s m args below meth c H1 locs1 (T.length - Tb.length + (T'.length - T.length)) (xZ T - xZ Tb + (xZ T' - xZ T)) Q (F0 m (pc + 3) ls (v.toList ++ rest)) := by
    intro v R' L' I' H1 locs1 q0 q1 q2
    rw [hce, hse]
    exact k v R' L' I' q0 p l e Rm s m args below meth c H1 locs1 Q ls hF hRm hl hln q1 q2 hE
  have hR2 : (Y'.2.2.2.2.1 + 1 ≤ Rm.frames ∧ 8 + (Y'.2.2.1 + 11) + Y'.2.2.2.2.2 ≤ Rm.locals) := by rw [hRm.1, hRm.2.1]; exact hr
  obtain ⟨q0, hq⟩ := xhas (R := R) (L := L) (I := I) hsh h4
  obtain ⟨cell, g1, g2, g3⟩ := va_recv hF.2.2.2.2.2.2.2.2.1 hR.2 (xcl h4) hq
  refine xcall_go (va_runV (C := Y'.1.cls) (As := av) (rest := rest) ⟨hF.1, hF.2.1, hF.2.2.1, hF.2.2.2.1, hts⟩ (hcon.2 l) ⟨callB_of n hts (xgood hcode) rfl rfl rfl (hts _ hini) (hts _ hw) hdd hR2, hts _ hinst, hts _ hsel⟩ ⟨xblind G _ T R L I, ⟨cell, g1, g2, by rw [← hcn]; exact g3⟩, hP⟩ rfl hn hl.1 rfl (lv_room hcat) hd hroom) hS kk
theorem xV_objInit {b : Nat} (hd : decode Y.2.1 pc = .ok (.invokespecial idx, 3) ∧ pc + 3 = pc') (hw : Cond.methodLink Y.1.cls idx Lib.objectInit ∈ xW ∧ Cond.instanceMethod Lib.objectInit ∈ xW ∧ Cond.code Lib.objectInit ⟨#[0xb1]⟩ 1 none ∈ xW) (hfr : 1 ≤ Y.2.2.2.2.1) (hlo : (rest.map fun v => v.category).sum + 12 ≤ Y.2.2.2.2.2)
    (k : xV G Y Tb o pc' xl rest T R L I) : xV G Y Tb o pc xl (.ref b :: rest) T R L I := by
  obtain ⟨hd, rfl⟩ := hd
  intro p l e Rm s m args below meth c H locs Q ls hF hRm hl hln hR hS hE
  exact W.objInit hF.1 hF.2.1 hF.2.2.2.1 (hF.2.2.2.2.1 _ hw.1) (hF.2.2.2.2.1 _ hw.2.1) (hF.2.2.2.2.1 _ hw.2.2) rfl (hl.1.trans hF.2.2.1.symm) rfl hd (by rw [hRm.1]; exact hfr) (by rw [hRm.2.1]; show 2 * 0 + _ + 12 ≤ _; omega) (k p l e Rm s m args below meth c H locs Q ls hF hRm hl hln hR hS hE)
-- ===== returns =====
theorem xV_ireturn {x : Int32} (hd : decode Y.2.1 pc = .ok (.ireturn, 1)) (hr : Y.2.2.2.1 = some .int) (hT : o.1 = T) (h : o.2 (some (.int x)) R L I) : xV G Y Tb o pc xl [.int x] T R L I := by
  intro p l e Rm s m args below meth c H locs Q ls hF hRm hl hln hR hS hE
  have k := hE H locs ls pc (some (.int x)) R L I (by rw [hr]; exact hd) (Or.inr (Or.inl ⟨hr, x, rfl⟩)) h (by rw [hT]; exact hR) hS
  rw [hT] at k
  exact k
theorem xV_zreturn {x : Int32} (hd : decode Y.2.1 pc = .ok (.ireturn, 1)) (hr : Y.2.2.2.1 = some .boolean) (hn : narrow .boolean (.int x) = .int x) (hT : o.1 = T) (h : o.2 (some (.int x)) R L I) : xV G Y Tb o pc xl [.int x] T R L I := by
  intro p l e Rm s m args below meth c H locs Q ls hF hRm hl hln hR hS hE
  have k := hE H locs ls pc (some (.int x)) R L I (by rw [hr]; exact hd) (Or.inr (Or.inr (Or.inl ⟨hr, x, rfl, hn⟩))) h (by rw [hT]; exact hR) hS
  rw [hT] at k
  exact k
theorem xV_lreturn {x : Int64} (hd : decode Y.2.1 pc = .ok (.lreturn, 1)) (hr : Y.2.2.2.1 = some .long) (hT : o.1 = T) (h : o.2 (some (.long x)) R L I) : xV G Y Tb o pc xl [.long x] T R L I := by
  intro p l e Rm s m args below meth c H locs Q ls hF hRm hl hln hR hS hE
  have k := hE H locs ls pc (some (.long x)) R L I (by rw [hr]; exact hd) (Or.inr (Or.inr (Or.inr ⟨hr, x, rfl⟩))) h (by rw [hT]; exact hR) hS
  rw [hT] at k
  exact k
theorem xV_return (hd : decode Y.2.1 pc = .ok (.return_, 1)) (hr : Y.2.2.2.1 = none) (hT : o.1 = T) (h : o.2 none R L I) : xV G Y Tb o pc xl [] T R L I := by
  intro p l e Rm s m args below meth c H locs Q ls hF hRm hl hln hR hS hE
  have k := hE H locs ls pc none R L I (by rw [hr]; exact hd) (Or.inl ⟨hr, rfl⟩) h (by rw [hT]; exact hR) hS
  rw [hT] at k
  exact k
theorem xend {p : Program} {l : Launch} {e : Env} {Rm : Room} {s : State} {m : MethodId} {args : Array Value} {below : List Frame} {meth : Method} {c : Code}
    (hx : p.tables.exec = Jvm.exec) (hb : c.code = Y.2.1) (hret : meth.sig.returnType = Y.2.2.2.1) (hlk : meth.locks = false) :
    xEnd G Y p l e Rm s m args below meth c T o (MQ below (xQ o G) args s (o.1.length - T.length) (xZ o.1 - xZ T) (xA G)) := by
  intro H locs ls pc v R L I hd hok hp hR hS
  rcases hok with ⟨h1, rfl⟩ | ⟨h1, r, rfl⟩ | ⟨h1, r, rfl, h3⟩ | ⟨h1, r, rfl⟩
  · rw [h1] at hd hret
    exact W.vret hx hb hret (fun t ht hW => ⟨⟨_, R, L, I, rfl, hp, by rw [ht]; exact hR⟩, hS.F ht⟩) hS.2.2 hd hlk
  · rw [h1] at hd hret
    exact W.iret hx hb hret (fun t ht hW => ⟨⟨_, R, L, I, rfl, hp, by rw [ht]; exact hR⟩, hS.F ht⟩) hS.2.2 hd hlk
  · rw [h1] at hd hret
    exact W.zret hx hb hret h3 (fun t ht hW => ⟨⟨_, R, L, I, rfl, hp, by rw [ht]; exact hR⟩, hS.F ht⟩) hS.2.2 hd hlk
  · rw [h1] at hd hret
    exact W.lret hx hb hret (fun t ht hW => ⟨⟨_, R, L, I, rfl, hp, by rw [ht]; exact hR⟩, hS.F ht⟩) hS.2.2 hd hlk
theorem Met.ofWF {l : Launch} {y : MethodName} {ws ws' : List Cond} {rm : Room} {Pc : Array Value → State → Prop} {Qc : Array Value → State → Outcome → State → Prop} {mc ms : Nat} {free : Addr → Prop} {cc : ByteArray} {maxL : Nat} {ret : Option FieldType}
    (hy : plainFor y = true) (hw : ws = Cond.code y cc maxL ret :: ws')
    (body : ∀ p e s m args below meth c s₁, BodyLoose p l y (headSpec ws rm) cc maxL ret e s m args below meth c s₁ → c.maxLocals = maxL → Pc args s →
      W p l e (headSpec ws rm).room s m args below meth c s.heap [] 0 0 (MQ below Qc args s mc ms free) (entryFrame m args maxL)) : Met l y ws rm Pc Qc mc ms free := by
  refine MetFree.of_bodySF (code := cc) (maxLocals := maxL) (ret := ret) hy ?_ ?_
  · intro args s m h hn
    obtain ⟨meth, c, h1, h2, h3, h4, h5, h6, -, -⟩ := Cond.code_spec hn (atoms_spec (ws := ws) h _ (by rw [hw]; exact List.mem_cons_self))
    exact ⟨meth, c, h1, h2, h3, h4, h5, h6⟩
  · intro p e s m args below meth c s₁ B hml hP _
    have hh0 : s₁.heap = s.heap := by rw [B.state]; rfl
    obtain ⟨t, a1, o, b1, b2, b3⟩ := body p e s m args below meth c s₁ B hml hP s₁ hh0 (Stand.of_body B)
    exact ⟨t, o, a1, b1, b2, ⟨b3.1, b3.2⟩⟩
/-- a contract out of the walk of the body -/
theorem xCon.mk (hy : plainFor Y.1 = true) (hle : xle T o.1) (hxl : xent av Y.2.2.1 = xl) (hlen : (lg_sl av).length ≤ Y.2.2.1) (hxn : xl.length = Y.2.2.1) (h : xV G Y T o 0 xl [] T R L I) : xCon G Y av T R L I o := by
  refine ⟨hle, fun l => ?_⟩
  refine Met.ofWF (cc := Y.2.1) (maxL := Y.2.2.1) (ret := Y.2.2.2.1) hy rfl ?_
  intro p e s m args below meth c s₁ B hml hv
  obtain ⟨rfl, hsz, hC, hR⟩ := hv
  have hts := atoms_spec (ws := xws Y) B.pre
  have hl := lv_entry av hlen
  rw [lg_entry_eq]
  generalize (lg_sl av ++ List.replicate (Y.2.2.1 - (lg_sl av).length) Slot.unset).toArray = ls at hl ⊢
  have hl : lv_has ls Y.2.2.1 (xe 0 xl) := by
    rw [← hxl]
    unfold xent
    rw [xe_ent]
    exact hl
  have key := h p l e (headSpec (xws Y) { frames := Y.2.2.2.2.1, cells := o.1.length - T.length, slots := xZ o.1 - xZ T, locals := Y.2.2.2.2.2 }).room s m av.toArray below meth c s.heap [] _ ls
    ⟨B.exec, B.bytes, hml, findClass_of_methodNamed B.named, fun w hw => hts w (List.mem_cons_of_mem _ hw), fun q => (name_of_methodNamed B.named B.method).1.trans q, hsz, hC⟩ ⟨rfl, rfl, Nat.le_refl _, Nat.le_refl _⟩ hl hxn hR va_S.rf
    (xend B.exec B.bytes B.returns B.notSynchronized)
  rw [Nat.sub_self, Nat.sub_self] at key
  exact key
end XC
end
section
/-! NEW CELLS; THE SAME MEMORY IN OTHER WORDS; THE LAW'S OWN FRAME -/
def xCN (own : String) (idx ci : Nat) : Prop := ci < 4 ∧ Cond.classLink own idx (xcn ci) ∈ xW ∧ Cond.instantiable (xcn ci) (xnf ci) ∈ xW ∧ Cond.initialized (xcn ci) ∈ xW
theorem xdef0 : ∀ k, k < 12 → defaultValue (tyX0 k) = xfv 0 k (fun _ => none) (fun _ => 0) (fun _ => 0) := by decide +kernel
theorem xdef1 : ∀ k, k < 4 → defaultValue (tyX1 k) = xfv 1 k (fun _ => none) (fun _ => 0) (fun _ => 0) := by decide +kernel
theorem xdef2 : ∀ k, k < 14 → defaultValue (tyX2 k) = xfv 2 k (fun _ => none) (fun _ => 0) (fun _ => 0) := by decide +kernel
theorem xdef3 : ∀ k, k < 24 → defaultValue (tyX3 k) = xfv 3 k (fun _ => none) (fun _ => 0) (fun _ => 0) := by decide +kernel
theorem xdef {ci k : Nat} (h : ci < 4) (hk : k < xnf ci) : defaultValue (xcy ci k) = xfv ci k (fun _ => none) (fun _ => 0) (fun _ => 0) := by
  match ci, h with
  | 0, _ => exact xdef0 k hk
  | 1, _ => exact xdef1 k hk
  | 2, _ => exact xdef2 k hk
  | 3, _ => exact xdef3 k hk
section XN
variable {G : xG} {Y : xY} {Tb : xT} {o : xO} {pc pc' idx : Nat} {xl : List (Option Value)} {st : List Value} {T : xT} {R : xR} {L : xL} {I : xI}
theorem xSh_old {t : Nat × Nat} {a : Nat} (h : a < G.2.2.1 + T.length) : xSh G (T ++ [t]) a = xSh G T a := by
  unfold xSh
  split
  · rfl
  · rw [List.getElem?_append_left (by omega)]
theorem xSh_new {t : Nat × Nat} : xSh G (T ++ [t]) (G.2.2.1 + T.length) = t := by
  unfold xSh
  rw [if_neg (by omega), show G.2.2.1 + T.length - G.2.2.1 = T.length by omega, List.getElem?_append_right (Nat.le_refl _), Nat.sub_self]
  rfl
theorem xRp_push {t : Nat × Nat} {H H1 : Heap} (hR : xRp G T R L I H) (z1 : H1.size = G.2.2.1 + T.length + 1) (o1 : ∀ q, q < G.2.2.1 + T.length → H1[q]? = H[q]?)
    (hn : va_at G.1 vwCl (G.2.2.1 + T.length, xmk G.2.1 t (R (G.2.2.1 + T.length)) (L (G.2.2.1 + T.length)) (I (G.2.2.1 + T.length))) H1) : xRp G (T ++ [t]) R L I H1 := by
  refine ⟨by rw [List.length_append, z1]; exact Nat.le_refl _, xP_iff.mpr (fun a ha => ?_)⟩
  obtain ⟨h1, h2⟩ := List.mem_range'_1.mp ha
  rw [List.length_append] at h2
  by_cases hl : a < G.2.2.1 + T.length
  · have h := xP_iff.mp hR.2 a (List.mem_range'_1.mpr ⟨h1, hl⟩)
    unfold xE at h ⊢
    rw [xSh_old hl]
    exact h.kept (o1 a hl)
  · have e : a = G.2.2.1 + T.length := by simp at h2; omega
    subst e
    unfold xE
    rw [xSh_new]
    exact hn
theorem xS_push {A : Nat → Prop} {H0 H H1 : Heap} {locs : List Loc} {h : Nat} (hS : va_S A H0 H locs) (z : H.size = h) (z1 : H1.size = h + 1) (o1 : ∀ q, q < h → H1[q]? = H[q]?) : va_S A H0 H1 locs :=
  ⟨Nat.le_trans hS.1 (by omega), fun x h1 h2 => (o1 x (by have := hS.1; omega)).trans (hS.2.1 x h1 h2), hS.2.2⟩
theorem xroom1 {t : Nat × Nat} (h1 : xle Tb T) (h3 : xle (T ++ [t]) o.1) {Rm : Room} (hc : o.1.length - Tb.length ≤ Rm.cells) (hs : xZ o.1 - xZ Tb ≤ Rm.slots) :
    T.length - Tb.length + 1 ≤ Rm.cells ∧ xZ T - xZ Tb + xsz t ≤ Rm.slots ∧ T.length - Tb.length + 1 = (T ++ [t]).length - Tb.length ∧ xZ T - xZ Tb + xsz t = xZ (T ++ [t]) - xZ Tb := by
  have e : xZ (T ++ [t]) = xZ T + xsz t := by simp [xZ]
  obtain ⟨a1, b1⟩ := h1
  obtain ⟨a3, b3⟩ := h3
  rw [e] at b3 ⊢
  rw [List.length_append] at a3 ⊢
  simp only [List.length_cons, List.length_nil] at a3 ⊢
  exact ⟨by omega, by omega, by omega, by omega⟩
theorem xV_new {ci a : Nat} (hd : decode Y.2.1 pc = .ok (.new idx, 3) ∧ pc + 3 = pc') (hc : xCN Y.1.cls idx ci) (ha : a = G.2.2.1 + T.length) (hz : ∀ k, R a k = none ∧ L a k = 0 ∧ I a k = 0) (h1 : xle Tb T) (h3 : xle (T ++ [(ci, 0)]) o.1)
    (k : xV G Y Tb o pc' xl (.ref a :: st) (T ++ [(ci, 0)]) R L I) : xV G Y Tb o pc xl st T R L I := by
  obtain ⟨hd, rfl⟩ := hd
  subst ha
  intro p l e Rm s m args below meth c H locs Q ls hF hRm hl hln hR hS hE
  obtain ⟨h4, hcl, hins, hini⟩ := hc
  obtain ⟨r1, r2, r3, r4⟩ := xroom1 h1 h3 hRm.2.2.1 hRm.2.2.2
  have hsz : xsz (ci, 0) = xnf ci := by simp [xsz, h4]
  rw [hsz] at r2 r4
  refine xW_size (fun hz2 => ?_)
  have hz2 : H.size = G.2.2.1 + T.length := by have := hR.1; have := hF.2.2.2.2.2.2.1; have := h1.1; omega
  have hts := hF.2.2.2.2.1
  have hK := hF.2.2.2.2.2.2.2.2.1
  have hKn := hK.1 ci _ (xcl h4)
  refine W.newcK hF.1 hF.2.1 hF.2.2.2.1 (hts _ hcl) (hts _ hins) (hts _ hini) rfl hd r1 r2 hKn.2.1 hz2 fun H1 kC hkC e1 z1 o1 => ?_
  have kk := k p l e Rm s m args below meth c H1 locs Q ls hF hRm hl hln (xRp_push hR z1 o1 ?_) (xS_push hS hz2 z1 o1) hE
  · rw [r3, r4]
    exact kk
  · rw [xmk_obj rfl h4]
    refine ⟨_, xcl h4, (u_born (xcy ci) hts (xin h4) hKn hkC e1 (xcy_ok h4)).to (fun j hj => ?_)⟩
    rw [xdef h4 hj]
    unfold vp_V
    rw [List.getD_eq_getElem?_getD, xfs_at hj]
    obtain ⟨q1, q2, q3⟩ := hz j
    simp [xfv, q1, q2, q3]
theorem xcI {s : State} {cA : ClassId} (hC : xCx G s) (h : s.vm.findClass ("[" ++ (newarray.typeOf .int).toString) = some cA) : cA = G.2.1.1 := by
  have h1 := (hC.2.1.2 0 (G.2.1.1, .int) rfl).2
  exact Option.some.inj (h.symm.trans h1)
theorem xcZ {s : State} {cA : ClassId} (hC : xCx G s) (h : s.vm.findClass ("[" ++ (newarray.typeOf .boolean).toString) = some cA) : cA = G.2.1.2.1 := by
  have h1 := (hC.2.1.2 1 (G.2.1.2.1, .boolean) rfl).2
  exact Option.some.inj (h.symm.trans h1)
theorem xcQ {s : State} {cA : ClassId} (hC : xCx G s) (h : s.vm.findClass ("[" ++ (FieldType.object RX0).toString) = some cA) : cA = G.2.1.2.2 := by
  obtain ⟨kA, comp, -, -, -, h1⟩ := (hC.2.1.2 2 (G.2.1.2.2, .object RX0) rfl).2
  exact Option.some.inj (h.symm.trans h1)
theorem xV_newI {a n : Nat} {v : Int32} (hd : decode Y.2.1 pc = .ok (.newarray .int, 2) ∧ pc + 2 = pc') (hw : Cond.arrayClass .int ∈ xW) (hv : v = nI n) (hn : n < 100000) (ha : a = G.2.2.1 + T.length) (hz : ∀ k, I a k = 0) (h1 : xle Tb T) (h3 : xle (T ++ [(4, n)]) o.1)
    (k : xV G Y Tb o pc' xl (.ref a :: st) (T ++ [(4, n)]) R L I) : xV G Y Tb o pc xl (.int v :: st) T R L I := by
  obtain ⟨hd, rfl⟩ := hd
  subst ha
  subst hv
  intro p l e Rm s m args below meth c H locs Q ls hF hRm hl hln hR hS hE
  obtain ⟨r1, r2, r3, r4⟩ := xroom1 h1 h3 hRm.2.2.1 hRm.2.2.2
  have hsz : xsz (4, n) = n := by simp [xsz]
  rw [hsz] at r2 r4
  refine xW_size (fun hz2 => ?_)
  have hz2 : H.size = G.2.2.1 + T.length := by have := hR.1; have := hF.2.2.2.2.2.2.1; have := h1.1; omega
  refine va_newaK (atype := .int) hF.1 hF.2.1 (hF.2.2.2.2.1 _ hw) rfl hd rfl (nI_pos (by omega)) (nI_clamp (by omega)) (by show n * 4 ≤ _; omega) r1 r2 hz2 fun H1 cA e1 z1 o1 hAr hNm => ?_
  have hcA := xcI hF.2.2.2.2.2.2.2 hNm
  subst hcA
  have kk := k p l e Rm s m args below meth c H1 locs Q ls hF hRm hl hln (xRp_push hR z1 o1 ?_) (xS_push hS hz2 z1 o1) hE
  · rw [r3, r4]
    exact kk
  · show H1[G.2.2.1 + T.length]? = some (vp_cell _ _)
    rw [e1]
    show _ = some (arrV _ n (fun j => .int (I _ j)))
    rw [show (fun j => Value.int (I (G.2.2.1 + T.length) j)) = (fun _ => defaultValue (newarray.typeOf .int)) from funext fun j => by rw [hz]; rfl]
theorem xV_newZ {a n : Nat} {v : Int32} (hd : decode Y.2.1 pc = .ok (.newarray .boolean, 2) ∧ pc + 2 = pc') (hw : Cond.arrayClass .boolean ∈ xW) (hv : v = nI n) (hn : n < 100000) (ha : a = G.2.2.1 + T.length) (hz : ∀ k, I a k = 0) (h1 : xle Tb T) (h3 : xle (T ++ [(5, n)]) o.1)
    (k : xV G Y Tb o pc' xl (.ref a :: st) (T ++ [(5, n)]) R L I) : xV G Y Tb o pc xl (.int v :: st) T R L I := by
  obtain ⟨hd, rfl⟩ := hd
  subst ha
  subst hv
  intro p l e Rm s m args below meth c H locs Q ls hF hRm hl hln hR hS hE
  obtain ⟨r1, r2, r3, r4⟩ := xroom1 h1 h3 hRm.2.2.1 hRm.2.2.2
  have hsz : xsz (5, n) = n := by simp [xsz]
  rw [hsz] at r2 r4
  refine xW_size (fun hz2 => ?_)
  have hz2 : H.size = G.2.2.1 + T.length := by have := hR.1; have := hF.2.2.2.2.2.2.1; have := h1.1; omega
  refine va_newaK (atype := .boolean) hF.1 hF.2.1 (hF.2.2.2.2.1 _ hw) rfl hd rfl (nI_pos (by omega)) (nI_clamp (by omega)) (by show n * 1 ≤ _; omega) r1 r2 hz2 fun H1 cA e1 z1 o1 hAr hNm => ?_
  have hcA := xcZ hF.2.2.2.2.2.2.2 hNm
  subst hcA
  have kk := k p l e Rm s m args below meth c H1 locs Q ls hF hRm hl hln (xRp_push hR z1 o1 ?_) (xS_push hS hz2 z1 o1) hE
  · rw [r3, r4]
    exact kk
  · show H1[G.2.2.1 + T.length]? = some (vp_cell _ _)
    rw [e1]
    show _ = some (arrV _ n (fun j => .int (I _ j)))
    rw [show (fun j => Value.int (I (G.2.2.1 + T.length) j)) = (fun _ => defaultValue (newarray.typeOf .boolean)) from funext fun j => by rw [hz]; rfl]
theorem xV_newQ {a n : Nat} {v : Int32} (hd : decode Y.2.1 pc = .ok (.anewarray idx, 3) ∧ pc + 3 = pc') (hw : Cond.classLink Y.1.cls idx RX0 ∈ xW) (hv : v = nI n) (hn : n < 100000) (ha : a = G.2.2.1 + T.length) (hz : ∀ k, R a k = none) (h1 : xle Tb T) (h3 : xle (T ++ [(6, n)]) o.1)
    (k : xV G Y Tb o pc' xl (.ref a :: st) (T ++ [(6, n)]) R L I) : xV G Y Tb o pc xl (.int v :: st) T R L I := by
  obtain ⟨hd, rfl⟩ := hd
  subst ha
  subst hv
  intro p l e Rm s m args below meth c H locs Q ls hF hRm hl hln hR hS hE
  obtain ⟨r1, r2, r3, r4⟩ := xroom1 h1 h3 hRm.2.2.1 hRm.2.2.2
  have hsz : xsz (6, n) = n := by simp [xsz]
  rw [hsz] at r2 r4
  refine xW_size (fun hz2 => ?_)
  have hz2 : H.size = G.2.2.1 + T.length := by have := hR.1; have := hF.2.2.2.2.2.2.1; have := h1.1; omega
  have hcl : (nI n).toNatClampNeg = n := nI_clamp (by omega)
  refine W.anew hF.1 hF.2.1 hF.2.2.2.1 (hF.2.2.2.2.1 _ hw) (va_AO.use hF.2.2.2.2.2.2.2.2.2.2.2.2.2) rfl hd rfl (nI_pos (by omega)) (by rw [hcl]; omega) r1 (by rw [hcl]; exact r2) fun cA kA comp f1 f2 f3 f4 => ?_
  have hcA := xcQ hF.2.2.2.2.2.2.2 f1
  subst hcA
  rw [hcl]
  generalize hH1 : H.push ({ cls := G.2.1.2.2, slots := Array.replicate n .null, vm := .none } : Cell) = H1
  have z1 : H1.size = G.2.2.1 + T.length + 1 := by rw [← hH1, Array.size_push, hz2]
  have e1 : H1[G.2.2.1 + T.length]? = some (arrV G.2.1.2.2 n (fun _ => .null)) := by rw [← hH1, ← hz2, Array.getElem?_push_size, ← arrV_new]
  have o1 : ∀ q : Nat, q < G.2.2.1 + T.length → H1[q]? = H[q]? := fun q hq => by rw [← hH1, Array.getElem?_push, if_neg (by omega)]
  have kk := k p l e Rm s m args below meth c H1 locs Q ls hF hRm hl hln (xRp_push hR z1 o1 ?_) (xS_push hS hz2 z1 o1) hE
  · rw [r3, r4, hz2]
    exact kk
  · show H1[G.2.2.1 + T.length]? = some (vp_cell _ _)
    rw [e1]
    show _ = some (arrV _ n (fun j => va_rf (R _ j)))
    rw [show (fun j => va_rf (R (G.2.2.1 + T.length) j)) = (fun _ => Value.null) from funext fun j => by rw [hz]; rfl]
/-- which ints of a cell are there at all -/
def xvl (G : xG) (T : xT) (a k : Nat) : Prop := ((xSh G T a).1 < 4 ∧ k < xnf (xSh G T a).1 ∧ xfk (xSh G T a).1 k = 0) ∨ (((xSh G T a).1 = 4 ∨ (xSh G T a).1 = 5) ∧ k < (xSh G T a).2)
theorem arrV_cong {cA : ClassId} {n : Nat} {f g : Nat → Value} (h : ∀ k, k < n → f k = g k) : arrV cA n f = arrV cA n g := by
  unfold arrV
  congr 1
  apply Array.ext
  · simp
  · intro i h1 h2
    simp only [Array.getElem_ofFn]
    exact h i (by simpa using h1)
theorem xRp_congI {I' : xI} {H : Heap} (h : ∀ a k, xvl G T a k → I a k = I' a k) (hR : xRp G T R L I H) : xRp G T R L I' H := by
  refine ⟨hR.1, xP_iff.mpr (fun a ha => ?_)⟩
  have q := xP_iff.mp hR.2 a ha
  have ha' := h a
  unfold xE at q ⊢
  unfold xvl at ha'
  generalize xSh G T a = t at q ha' ⊢
  obtain ⟨t1, t2⟩ := t
  by_cases h4 : t1 < 4
  · rw [xmk_obj rfl h4] at q ⊢
    refine (congrArg (fun x => va_at G.1 vwCl (a, .inr (t1, x)) H) (List.map_congr_left (fun k hk => ?_))).mp q
    have hk := List.mem_range.mp hk
    unfold xfv
    split
    · rename_i hkd
      rw [ha' k (Or.inl ⟨h4, hk, hkd⟩)]
    · rfl
    · rfl
  · match t1, h4 with
    | 4, _ =>
      have q : H[a]? = some (arrV G.2.1.1 t2 (fun j => .int (I a j))) := q
      show H[a]? = some (arrV G.2.1.1 t2 (fun j => .int (I' a j)))
      rw [q, arrV_cong (fun k hk => by rw [ha' k (Or.inr ⟨Or.inl rfl, hk⟩)])]
    | 5, _ =>
      have q : H[a]? = some (arrV G.2.1.2.1 t2 (fun j => .int (I a j))) := q
      show H[a]? = some (arrV G.2.1.2.1 t2 (fun j => .int (I' a j)))
      rw [q, arrV_cong (fun k hk => by rw [ha' k (Or.inr ⟨Or.inr rfl, hk⟩)])]
    | 6, _ => exact q
    | n + 7, _ => rw [xmk_hi] at q ⊢; exact q
theorem xV_congI {I' : xI} (h : ∀ a k, xvl G T a k → I a k = I' a k) (k : xV G Y Tb o pc xl st T R L I') : xV G Y Tb o pc xl st T R L I :=
  fun p l e Rm s m args below meth c H locs Q ls hF hRm hl hln hR hS hE => k p l e Rm s m args below meth c H locs Q ls hF hRm hl hln (xRp_congI h hR) hS hE
end XN
end
section
/-! THE METHODS: name, code, locals, answer, frames and words below; what their constant pools name; by program -/
abbrev Y_X0_init : xY := (yX0_init, cX0_init, 1, none, 1, 12)
abbrev Y_X0_clear : xY := (yX0_clear, cX0_clear, 2, none, 2, 43)
abbrev Y_X0_take : xY := (yX0_take, cX0_take, 2, none, 1, 18)
abbrev Y_X0_isFallen : xY := (yX0_isFallen, cX0_isFallen, 2, (some .boolean), 1, 21)
abbrev Y_X0_isMonk : xY := (yX0_isMonk, cX0_isMonk, 2, (some .boolean), 0, 0)
abbrev Y_X0_isLiving : xY := (yX0_isLiving, cX0_isLiving, 2, (some .boolean), 1, 21)
abbrev Y_X0_living : xY := (yX0_living, cX0_living, 1, (some .int), 0, 0)
abbrev Y_X0_placeOf : xY := (yX0_placeOf, cX0_placeOf, 2, (some .int), 1, 21)
abbrev Y_X0_addMonk : xY := (yX0_addMonk, cX0_addMonk, 3, none, 1, 22)
abbrev Y_X0_monksOn : xY := (yX0_monksOn, cX0_monksOn, 4, (some .int), 0, 0)
abbrev Y_X0_oreLeft : xY := (yX0_oreLeft, cX0_oreLeft, 3, (some .int), 0, 0)
abbrev Y_X0_forceOf : xY := (yX0_forceOf, cX0_forceOf, 6, (some .int), 2, 42)
abbrev Y_X0_prayer : xY := (yX0_prayer, cX0_prayer, 2, (some .int), 4, 90)
abbrev Y_X0_prayAll : xY := (yX0_prayAll, cX0_prayAll, 3, none, 5, 111)
abbrev Y_X0_endDay : xY := (yX0_endDay, cX0_endDay, 2, (some .int), 4, 90)
abbrev Y_X0_loosenBy : xY := (yX0_loosenBy, cX0_loosenBy, 4, none, 3, 67)
abbrev Y_X0_propsWanting : xY := (yX0_propsWanting, cX0_propsWanting, 3, (some .int), 1, 21)
abbrev Y_X0_loosen : xY := (yX0_loosen, cX0_loosen, 5, none, 1, 21)
abbrev Y_X0_waves : xY := (yX0_waves, cX0_waves, 4, (some .int), 3, 67)
abbrev Y_X0_tooLoose : xY := (yX0_tooLoose, cX0_tooLoose, 3, (some .int), 0, 0)
abbrev Y_X0_fell : xY := (yX0_fell, cX0_fell, 3, none, 2, 45)
abbrev Y_X0_empty : xY := (yX0_empty, cX0_empty, 2, none, 1, 22)
abbrev Y_X1_init : xY := (yX1_init, cX1_init, 1, none, 2, 32)
abbrev Y_X1_start : xY := (yX1_start, cX1_start, 1, none, 3, 64)
abbrev Y_X1_mayEnd : xY := (yX1_mayEnd, cX1_mayEnd, 1, (some .boolean), 0, 0)
abbrev Y_X1_accepts : xY := (yX1_accepts, cX1_accepts, 2, (some .boolean), 3, 65)
abbrev Y_X1_goOn : xY := (yX1_goOn, cX1_goOn, 2, (some .boolean), 0, 0)
abbrev Y_X1_acceptsHold : xY := (yX1_acceptsHold, cX1_acceptsHold, 2, (some .boolean), 1, 21)
abbrev Y_X1_acceptsPart : xY := (yX1_acceptsPart, cX1_acceptsPart, 2, (some .boolean), 1, 21)
abbrev Y_X1_acceptsTens : xY := (yX1_acceptsTens, cX1_acceptsTens, 4, (some .boolean), 0, 0)
abbrev Y_X1_acceptsOnes : xY := (yX1_acceptsOnes, cX1_acceptsOnes, 3, (some .boolean), 1, 21)
abbrev Y_X1_tell : xY := (yX1_tell, cX1_tell, 1, (some .boolean), 1, 21)
abbrev Y_X1_acceptsAmount : xY := (yX1_acceptsAmount, cX1_acceptsAmount, 3, (some .boolean), 1, 22)
abbrev Y_X1_acceptsSect : xY := (yX1_acceptsSect, cX1_acceptsSect, 2, (some .boolean), 2, 44)
abbrev Y_X2_init : xY := (yX2_init, cX2_init, 2, none, 3, 52)
abbrev Y_X2_write : xY := (yX2_write, cX2_write, 5, (some .int), 1, 22)
abbrev Y_X2_wipe : xY := (yX2_wipe, cX2_wipe, 2, (some .int), 0, 0)
abbrev Y_X2_fault : xY := (yX2_fault, cX2_fault, 1, (some .int), 5, 107)
abbrev Y_X2_mine : xY := (yX2_mine, cX2_mine, 1, (some .int), 5, 107)
abbrev Y_X2_about : xY := (yX2_about, cX2_about, 2, (some .int), 1, 22)
abbrev Y_X2_cell : xY := (yX2_cell, cX2_cell, 3, (some .int), 2, 42)
abbrev Y_X2_monk : xY := (yX2_monk, cX2_monk, 3, (some .int), 3, 67)
abbrev Y_X2_pray : xY := (yX2_pray, cX2_pray, 2, (some .int), 5, 111)
abbrev Y_X2_oath : xY := (yX2_oath, cX2_oath, 4, (some .int), 3, 61)
abbrev Y_X2_doubt : xY := (yX2_doubt, cX2_doubt, 4, (some .int), 3, 61)
abbrev Y_X2_walk : xY := (yX2_walk, cX2_walk, 3, (some .int), 3, 61)
abbrev Y_X2_day : xY := (yX2_day, cX2_day, 1, (some .int), 5, 111)
abbrev Y_X2_undo : xY := (yX2_undo, cX2_undo, 1, (some .int), 2, 39)
abbrev Y_X2_falls : xY := (yX2_falls, cX2_falls, 2, (some .int), 5, 111)
abbrev Y_X2_psalm : xY := (yX2_psalm, cX2_psalm, 5, (some .int), 6, 134)
abbrev Y_X2_best : xY := (yX2_best, cX2_best, 3, (some .int), 7, 158)
abbrev Y_X2_bestAt : xY := (yX2_bestAt, cX2_bestAt, 4, (some .int), 7, 158)
abbrev Y_X2_oaths : xY := (yX2_oaths, cX2_oaths, 3, (some .int), 4, 90)
abbrev Y_X2_down : xY := (yX2_down, cX2_down, 3, (some .int), 6, 133)
abbrev Y_X2_see : xY := (yX2_see, cX2_see, 3, (some .int), 1, 22)
abbrev Y_X2_unsee : xY := (yX2_unsee, cX2_unsee, 2, (some .int), 0, 0)
abbrev Y_X2_silent : xY := (yX2_silent, cX2_silent, 6, (some .int), 7, 157)
abbrev Y_X2_chance : xY := (yX2_chance, cX2_chance, 9, (some .int), 6, 133)
abbrev Y_X2_seed : xY := (yX2_seed, cX2_seed, 5, (some .long), 0, 0)
abbrev Y_X2_month : xY := (yX2_month, cX2_month, 5, (some .int), 5, 111)
abbrev Y_X2_keep : xY := (yX2_keep, cX2_keep, 3, (some .int), 2, 39)
abbrev Y_X2_again : xY := (yX2_again, cX2_again, 2, (some .int), 2, 39)
abbrev Y_X2_isCell : xY := (yX2_isCell, cX2_isCell, 1, (some .boolean), 0, 0)
abbrev Y_X2_has : xY := (yX2_has, cX2_has, 2, (some .boolean), 0, 0)
abbrev Y_X2_at : xY := (yX2_at, cX2_at, 2, (some .int), 0, 0)
abbrev Y_X2_put : xY := (yX2_put, cX2_put, 3, none, 0, 0)
abbrev Y_X2_readText : xY := (yX2_readText, cX2_readText, 2, (some .int), 4, 86)
abbrev Y_X2_remember : xY := (yX2_remember, cX2_remember, 3, none, 2, 39)
abbrev Y_X2_breakOf : xY := (yX2_breakOf, cX2_breakOf, 4, (some .int), 5, 111)
abbrev Y_X2_bestCode : xY := (yX2_bestCode, cX2_bestCode, 5, (some .int), 6, 134)
abbrev Y_X2_setSong : xY := (yX2_setSong, cX2_setSong, 4, none, 1, 22)
abbrev Y_X2_figureOf : xY := (yX2_figureOf, cX2_figureOf, 3, (some .int), 0, 0)
abbrev Y_X2_isSeenBy : xY := (yX2_isSeenBy, cX2_isSeenBy, 5, (some .boolean), 6, 133)
abbrev Y_X2_weightOf : xY := (yX2_weightOf, cX2_weightOf, 5, (some .int), 1, 21)
abbrev Y_X2_commonDivisor : xY := (yX2_commonDivisor, cX2_commonDivisor, 6, (some .int), 0, 0)
abbrev Y_X2_nextTenth : xY := (yX2_nextTenth, cX2_nextTenth, 1, (some .int), 0, 0)
abbrev Y_X3_init : xY := (yX3_init, cX3_init, 1, none, 1, 12)
abbrev Y_X3_in : xY := (yX3_in, cX3_in, 6, (some .boolean), 0, 0)
abbrev Y_X3_has : xY := (yX3_has, cX3_has, 2, (some .boolean), 0, 0)
abbrev Y_X3_noMonk : xY := (yX3_noMonk, cX3_noMonk, 2, (some .boolean), 1, 25)
abbrev Y_X3_noCell : xY := (yX3_noCell, cX3_noCell, 1, (some .boolean), 1, 25)
abbrev Y_X3_write : xY := (yX3_write, cX3_write, 5, (some .int), 1, 25)
abbrev Y_X3_wipe : xY := (yX3_wipe, cX3_wipe, 2, (some .int), 0, 0)
abbrev Y_X3_figure : xY := (yX3_figure, cX3_figure, 3, (some .int), 1, 25)
abbrev Y_X3_readCellOf : xY := (yX3_readCellOf, cX3_readCellOf, 5, (some .int), 1, 25)
abbrev Y_X3_readCell : xY := (yX3_readCell, cX3_readCell, 5, (some .boolean), 2, 49)
abbrev Y_X3_readMonk : xY := (yX3_readMonk, cX3_readMonk, 3, (some .boolean), 2, 49)
abbrev Y_X3_readPart : xY := (yX3_readPart, cX3_readPart, 2, (some .boolean), 3, 73)
abbrev Y_X3_readMine : xY := (yX3_readMine, cX3_readMine, 2, (some .int), 4, 94)
abbrev Y_X3_fault : xY := (yX3_fault, cX3_fault, 1, (some .int), 5, 115)
abbrev Y_X3_mine : xY := (yX3_mine, cX3_mine, 2, (some .int), 5, 115)
abbrev Y_X3_areNext : xY := (yX3_areNext, cX3_areNext, 4, (some .boolean), 0, 0)
abbrev Y_X3_thereOf : xY := (yX3_thereOf, cX3_thereOf, 4, (some .int), 0, 0)
abbrev Y_X3_about : xY := (yX3_about, cX3_about, 4, (some .int), 0, 0)
abbrev Y_X3_cell : xY := (yX3_cell, cX3_cell, 3, (some .int), 2, 45)
abbrev Y_X3_timesOf : xY := (yX3_timesOf, cX3_timesOf, 6, (some .int), 1, 23)
abbrev Y_X3_monk : xY := (yX3_monk, cX3_monk, 4, (some .int), 2, 48)
abbrev Y_X3_note : xY := (yX3_note, cX3_note, 2, none, 0, 0)
abbrev Y_X3_loosen : xY := (yX3_loosen, cX3_loosen, 3, none, 1, 21)
abbrev Y_X3_fall : xY := (yX3_fall, cX3_fall, 6, (some .int), 2, 43)
abbrev Y_X3_goPray : xY := (yX3_goPray, cX3_goPray, 6, (some .int), 3, 68)
abbrev Y_X3_goDay : xY := (yX3_goDay, cX3_goDay, 3, (some .int), 3, 68)
abbrev Y_X3_noOne : xY := (yX3_noOne, cX3_noOne, 2, (some .int), 2, 46)
abbrev Y_X3_pray : xY := (yX3_pray, cX3_pray, 3, (some .int), 4, 93)
abbrev Y_X3_oath : xY := (yX3_oath, cX3_oath, 4, (some .int), 3, 67)
abbrev Y_X3_doubt : xY := (yX3_doubt, cX3_doubt, 4, (some .int), 3, 67)
abbrev Y_X3_walk : xY := (yX3_walk, cX3_walk, 3, (some .int), 2, 46)
abbrev Y_X3_day : xY := (yX3_day, cX3_day, 1, (some .int), 4, 90)
abbrev Y_X3_undo : xY := (yX3_undo, cX3_undo, 2, (some .int), 0, 0)
abbrev Y_X3_begin : xY := (yX3_begin, cX3_begin, 2, none, 0, 0)
abbrev Y_X3_falls : xY := (yX3_falls, cX3_falls, 3, (some .int), 4, 93)
abbrev Y_X3_ten : xY := (yX3_ten, cX3_ten, 3, (some .int), 0, 0)
abbrev Y_X3_goPsalm : xY := (yX3_goPsalm, cX3_goPsalm, 7, (some .int), 4, 93)
abbrev Y_X3_psalm : xY := (yX3_psalm, cX3_psalm, 3, (some .int), 5, 119)
abbrev Y_X3_findBest : xY := (yX3_findBest, cX3_findBest, 4, (some .int), 5, 119)
abbrev Y_X3_best : xY := (yX3_best, cX3_best, 2, (some .int), 6, 142)
abbrev Y_X3_bestAt : xY := (yX3_bestAt, cX3_bestAt, 3, (some .int), 6, 142)
abbrev Y_X3_oaths : xY := (yX3_oaths, cX3_oaths, 5, (some .int), 2, 48)
abbrev Y_X3_prayAll : xY := (yX3_prayAll, cX3_prayAll, 4, none, 4, 93)
abbrev Y_X3_down : xY := (yX3_down, cX3_down, 3, (some .int), 5, 116)
abbrev Y_X3_see : xY := (yX3_see, cX3_see, 3, (some .int), 2, 45)
abbrev Y_X3_unsee : xY := (yX3_unsee, cX3_unsee, 2, (some .int), 0, 0)
abbrev Y_X3_silent : xY := (yX3_silent, cX3_silent, 8, (some .int), 5, 116)
abbrev Y_X3_divisor : xY := (yX3_divisor, cX3_divisor, 5, (some .int), 0, 0)
abbrev Y_X3_chance : xY := (yX3_chance, cX3_chance, 8, (some .int), 5, 116)
abbrev Y_X3_seed : xY := (yX3_seed, cX3_seed, 5, (some .long), 0, 0)
abbrev Y_X3_month : xY := (yX3_month, cX3_month, 5, (some .int), 4, 93)
abbrev Y_X3_keep : xY := (yX3_keep, cX3_keep, 3, (some .int), 1, 25)
abbrev Y_X3_again : xY := (yX3_again, cX3_again, 3, (some .int), 1, 25)
abbrev Y_J6_bitCount_0f7a4 : xY := (yJ6_bitCount_0f7a4, cJ6_bitCount_0f7a4, 1, (some .int), 0, 0)
abbrev Y_J9_max_7cf53 : xY := (yJ9_max_7cf53, cJ9_max_7cf53, 2, (some .int), 0, 0)
abbrev Y_J9_min_7cf53 : xY := (yJ9_min_7cf53, cJ9_min_7cf53, 2, (some .int), 0, 0)
abbrev Y_L_law : xY := (yL_law, cL_law, 4, (some .boolean), 8, 182)
theorem n_X2_13 : xCN RX2 13 1 := ⟨by decide, xw_in 16 (by decide +kernel) (by decide +kernel), xw_in 17 (by decide +kernel) (by decide +kernel), xw_in 2 (by decide +kernel) (by decide +kernel)⟩
theorem n_X2_20q : Cond.classLink RX2 20 RX0 ∈ xW := xw_in 97 (by decide +kernel) (by decide +kernel)
theorem n_X2_20 : xCN RX2 20 0 := ⟨by decide, xw_in 97 (by decide +kernel) (by decide +kernel), xw_in 23 (by decide +kernel) (by decide +kernel), xw_in 3 (by decide +kernel) (by decide +kernel)⟩
theorem k_X2_215 : Cond.constantLong RX2 215 (6364136223846793005) ∈ xW := xw_in 454 (by decide +kernel) (by decide +kernel)
theorem k_X2_217 : Cond.constantLong RX2 217 (1442695040888963407) ∈ xW := xw_in 455 (by decide +kernel) (by decide +kernel)
theorem k_X2_219 : Cond.constantLong RX2 219 (10) ∈ xW := xw_in 456 (by decide +kernel) (by decide +kernel)
theorem n_X1_9 : xCN RX1 9 0 := ⟨by decide, xw_in 22 (by decide +kernel) (by decide +kernel), xw_in 23 (by decide +kernel) (by decide +kernel), xw_in 3 (by decide +kernel) (by decide +kernel)⟩
theorem n_L_7 : xCN RL 7 2 := ⟨by decide, xw_in 8 (by decide +kernel) (by decide +kernel), xw_in 9 (by decide +kernel) (by decide +kernel), xw_in 1 (by decide +kernel) (by decide +kernel)⟩
theorem n_L_10 : xCN RL 10 3 := ⟨by decide, xw_in 465 (by decide +kernel) (by decide +kernel), xw_in 466 (by decide +kernel) (by decide +kernel), xw_in 4 (by decide +kernel) (by decide +kernel)⟩
theorem k_L_13 : Cond.constantLong RL 13 (4294967295) ∈ xW := xw_in 755 (by decide +kernel) (by decide +kernel)
theorem k_X3_58 : Cond.constantLong RX3 58 (11) ∈ xW := xw_in 604 (by decide +kernel) (by decide +kernel)
theorem k_X3_60 : Cond.constantLong RX3 60 (8) ∈ xW := xw_in 549 (by decide +kernel) (by decide +kernel)
theorem k_X3_68 : Cond.constantLong RX3 68 (9) ∈ xW := xw_in 581 (by decide +kernel) (by decide +kernel)
theorem k_X3_163 : Cond.constantLong RX3 163 (3) ∈ xW := xw_in 694 (by decide +kernel) (by decide +kernel)
theorem k_X3_172 : Cond.constantLong RX3 172 (100) ∈ xW := xw_in 719 (by decide +kernel) (by decide +kernel)
theorem k_X3_174 : Cond.constantLong RX3 174 (10) ∈ xW := xw_in 732 (by decide +kernel) (by decide +kernel)
theorem k_X3_183 : Cond.constantLong RX3 183 (30) ∈ xW := xw_in 744 (by decide +kernel) (by decide +kernel)
theorem k_X3_185 : Cond.constantLong RX3 185 (6364136223846793005) ∈ xW := xw_in 745 (by decide +kernel) (by decide +kernel)
theorem k_X3_187 : Cond.constantLong RX3 187 (1442695040888963407) ∈ xW := xw_in 746 (by decide +kernel) (by decide +kernel)
theorem k_J6_265 : Cond.constant RJ6 265 (1431655765) ∈ xW := xw_in 197 (by decide +kernel) (by decide +kernel)
theorem k_J6_266 : Cond.constant RJ6 266 (858993459) ∈ xW := xw_in 198 (by decide +kernel) (by decide +kernel)
theorem k_J6_267 : Cond.constant RJ6 267 (252645135) ∈ xW := xw_in 199 (by decide +kernel) (by decide +kernel)
theorem f_X2_9 : xFL RX2 9 2 0 2 := ⟨xw_in 100 (by decide +kernel) (by decide +kernel), by decide, by decide, by decide⟩ -- text
theorem p_X2_9 : xFP RX2 9 2 0 2 true (.array .int) := ⟨f_X2_9, rfl, rfl⟩
theorem f_X2_16 : xFL RX2 16 2 2 2 := ⟨xw_in 102 (by decide +kernel) (by decide +kernel), by decide, by decide, by decide⟩ -- reader
theorem p_X2_16 : xFP RX2 16 2 2 2 true (.object "PrayerTailings$Reader") := ⟨f_X2_16, rfl, rfl⟩
theorem f_X2_23 : xFL RX2 23 2 3 2 := ⟨xw_in 103 (by decide +kernel) (by decide +kernel), by decide, by decide, by decide⟩ -- now
theorem p_X2_23 : xFP RX2 23 2 3 2 true (.object "PrayerTailings$Mine") := ⟨f_X2_23, rfl, rfl⟩
theorem f_X2_27 : xFL RX2 27 2 4 2 := ⟨xw_in 104 (by decide +kernel) (by decide +kernel), by decide, by decide, by decide⟩ -- trial
theorem p_X2_27 : xFP RX2 27 2 4 2 true (.object "PrayerTailings$Mine") := ⟨f_X2_27, rfl, rfl⟩
theorem f_X2_30 : xFL RX2 30 2 5 2 := ⟨xw_in 105 (by decide +kernel) (by decide +kernel), by decide, by decide, by decide⟩ -- song
theorem p_X2_30 : xFP RX2 30 2 5 2 true (.array .int) := ⟨f_X2_30, rfl, rfl⟩
theorem f_X2_33 : xFL RX2 33 2 6 2 := ⟨xw_in 106 (by decide +kernel) (by decide +kernel), by decide, by decide, by decide⟩ -- past
theorem p_X2_33 : xFP RX2 33 2 6 2 true (.array (.object "PrayerTailings$Mine")) := ⟨f_X2_33, rfl, rfl⟩
theorem f_X2_37 : xFL RX2 37 2 8 2 := ⟨xw_in 108 (by decide +kernel) (by decide +kernel), by decide, by decide, by decide⟩ -- slots
theorem p_X2_37 : xFP RX2 37 2 8 2 true (.array (.object "PrayerTailings$Mine")) := ⟨f_X2_37, rfl, rfl⟩
theorem f_X2_40 : xFL RX2 40 2 10 2 := ⟨xw_in 110 (by decide +kernel) (by decide +kernel), by decide, by decide, by decide⟩ -- seenCells
theorem p_X2_40 : xFP RX2 40 2 10 2 true (.array .int) := ⟨f_X2_40, rfl, rfl⟩
theorem f_X2_43 : xFL RX2 43 2 11 2 := ⟨xw_in 111 (by decide +kernel) (by decide +kernel), by decide, by decide, by decide⟩ -- seenLoose
theorem p_X2_43 : xFP RX2 43 2 11 2 true (.array .int) := ⟨f_X2_43, rfl, rfl⟩
theorem f_X2_46 : xFL RX2 46 2 1 0 := ⟨xw_in 101 (by decide +kernel) (by decide +kernel), by decide, by decide, by decide⟩ -- length
theorem p_X2_46 : xFP RX2 46 2 1 0 false .int := ⟨f_X2_46, rfl, rfl⟩
theorem f_X2_58 : xFL RX2 58 1 0 2 := ⟨xw_in 84 (by decide +kernel) (by decide +kernel), by decide, by decide, by decide⟩ -- draft
theorem f_X2_65 : xFL RX2 65 2 7 0 := ⟨xw_in 107 (by decide +kernel) (by decide +kernel), by decide, by decide, by decide⟩ -- acts
theorem p_X2_65 : xFP RX2 65 2 7 0 false .int := ⟨f_X2_65, rfl, rfl⟩
theorem f_X2_68 : xFL RX2 68 2 9 0 := ⟨xw_in 109 (by decide +kernel) (by decide +kernel), by decide, by decide, by decide⟩ -- kept
theorem p_X2_68 : xFP RX2 68 2 9 0 false .int := ⟨f_X2_68, rfl, rfl⟩
theorem f_X2_71 : xFL RX2 71 0 6 0 := ⟨xw_in 45 (by decide +kernel) (by decide +kernel), by decide, by decide, by decide⟩ -- monks
theorem f_X2_74 : xFL RX2 74 0 5 0 := ⟨xw_in 43 (by decide +kernel) (by decide +kernel), by decide, by decide, by decide⟩ -- hold
theorem f_X2_77 : xFL RX2 77 0 11 0 := ⟨xw_in 56 (by decide +kernel) (by decide +kernel), by decide, by decide, by decide⟩ -- days
theorem f_X2_80 : xFL RX2 80 0 10 0 := ⟨xw_in 54 (by decide +kernel) (by decide +kernel), by decide, by decide, by decide⟩ -- taken
theorem f_X2_83 : xFL RX2 83 0 9 0 := ⟨xw_in 52 (by decide +kernel) (by decide +kernel), by decide, by decide, by decide⟩ -- fallen
theorem f_X2_86 : xFL RX2 86 0 8 0 := ⟨xw_in 50 (by decide +kernel) (by decide +kernel), by decide, by decide, by decide⟩ -- buried
theorem f_X2_92 : xFL RX2 92 2 12 0 := ⟨xw_in 112 (by decide +kernel) (by decide +kernel), by decide, by decide, by decide⟩ -- seen
theorem p_X2_92 : xFP RX2 92 2 12 0 false .int := ⟨f_X2_92, rfl, rfl⟩
theorem f_X2_99 : xFL RX2 99 0 0 2 := ⟨xw_in 30 (by decide +kernel) (by decide +kernel), by decide, by decide, by decide⟩ -- ore
theorem f_X2_106 : xFL RX2 106 0 1 2 := ⟨xw_in 33 (by decide +kernel) (by decide +kernel), by decide, by decide, by decide⟩ -- loose
theorem f_X2_109 : xFL RX2 109 0 2 2 := ⟨xw_in 36 (by decide +kernel) (by decide +kernel), by decide, by decide, by decide⟩ -- props
theorem f_X2_112 : xFL RX2 112 0 3 2 := ⟨xw_in 38 (by decide +kernel) (by decide +kernel), by decide, by decide, by decide⟩ -- echoes
theorem f_X2_128 : xFL RX2 128 0 7 0 := ⟨xw_in 48 (by decide +kernel) (by decide +kernel), by decide, by decide, by decide⟩ -- sects
theorem f_X2_149 : Cond.fieldLink RX2 149 RX2 "NEAR" "[I" ∈ xW := xw_in 350 (by decide +kernel) (by decide +kernel)
theorem f_X2_156 : xFL RX2 156 0 4 2 := ⟨xw_in 40 (by decide +kernel) (by decide +kernel), by decide, by decide, by decide⟩ -- places
theorem f_X2_198 : xFL RX2 198 2 13 1 := ⟨xw_in 113 (by decide +kernel) (by decide +kernel), by decide, by decide, by decide⟩ -- seedNow
theorem p_X2_198 : xFP RX2 198 2 13 1 false .long := ⟨f_X2_198, rfl, rfl⟩
theorem f_X0_9 : xFL RX0 9 0 0 2 := ⟨xw_in 28 (by decide +kernel) (by decide +kernel), by decide, by decide, by decide⟩ -- ore
theorem p_X0_9 : xFP RX0 9 0 0 2 true (.array .int) := ⟨f_X0_9, rfl, rfl⟩
theorem f_X0_15 : xFL RX0 15 0 1 2 := ⟨xw_in 31 (by decide +kernel) (by decide +kernel), by decide, by decide, by decide⟩ -- loose
theorem p_X0_15 : xFP RX0 15 0 1 2 true (.array .int) := ⟨f_X0_15, rfl, rfl⟩
theorem f_X0_18 : xFL RX0 18 0 2 2 := ⟨xw_in 34 (by decide +kernel) (by decide +kernel), by decide, by decide, by decide⟩ -- props
theorem p_X0_18 : xFP RX0 18 0 2 2 true (.array .int) := ⟨f_X0_18, rfl, rfl⟩
theorem f_X0_21 : xFL RX0 21 0 3 2 := ⟨xw_in 37 (by decide +kernel) (by decide +kernel), by decide, by decide, by decide⟩ -- echoes
theorem p_X0_21 : xFP RX0 21 0 3 2 true (.array .int) := ⟨f_X0_21, rfl, rfl⟩
theorem f_X0_24 : xFL RX0 24 0 4 2 := ⟨xw_in 39 (by decide +kernel) (by decide +kernel), by decide, by decide, by decide⟩ -- places
theorem p_X0_24 : xFP RX0 24 0 4 2 true (.array .int) := ⟨f_X0_24, rfl, rfl⟩
theorem f_X0_27 : xFL RX0 27 0 5 0 := ⟨xw_in 41 (by decide +kernel) (by decide +kernel), by decide, by decide, by decide⟩ -- hold
theorem p_X0_27 : xFP RX0 27 0 5 0 false .int := ⟨f_X0_27, rfl, rfl⟩
theorem f_X0_35 : xFL RX0 35 0 6 0 := ⟨xw_in 44 (by decide +kernel) (by decide +kernel), by decide, by decide, by decide⟩ -- monks
theorem p_X0_35 : xFP RX0 35 0 6 0 false .int := ⟨f_X0_35, rfl, rfl⟩
theorem f_X0_38 : xFL RX0 38 0 7 0 := ⟨xw_in 47 (by decide +kernel) (by decide +kernel), by decide, by decide, by decide⟩ -- sects
theorem p_X0_38 : xFP RX0 38 0 7 0 false .int := ⟨f_X0_38, rfl, rfl⟩
theorem f_X0_41 : xFL RX0 41 0 8 0 := ⟨xw_in 49 (by decide +kernel) (by decide +kernel), by decide, by decide, by decide⟩ -- buried
theorem p_X0_41 : xFP RX0 41 0 8 0 false .int := ⟨f_X0_41, rfl, rfl⟩
theorem f_X0_44 : xFL RX0 44 0 9 0 := ⟨xw_in 51 (by decide +kernel) (by decide +kernel), by decide, by decide, by decide⟩ -- fallen
theorem p_X0_44 : xFP RX0 44 0 9 0 false .int := ⟨f_X0_44, rfl, rfl⟩
theorem f_X0_47 : xFL RX0 47 0 10 0 := ⟨xw_in 53 (by decide +kernel) (by decide +kernel), by decide, by decide, by decide⟩ -- taken
theorem p_X0_47 : xFP RX0 47 0 10 0 false .int := ⟨f_X0_47, rfl, rfl⟩
theorem f_X0_50 : xFL RX0 50 0 11 0 := ⟨xw_in 55 (by decide +kernel) (by decide +kernel), by decide, by decide, by decide⟩ -- days
theorem p_X0_50 : xFP RX0 50 0 11 0 false .int := ⟨f_X0_50, rfl, rfl⟩
theorem f_X0_83 : Cond.fieldLinkNest RX0 83 RX2 "NEAR" "[I" RX2 ∈ xnest := by decide +kernel
theorem f_X1_12 : xFL RX1 12 1 0 2 := ⟨xw_in 83 (by decide +kernel) (by decide +kernel), by decide, by decide, by decide⟩ -- draft
theorem p_X1_12 : xFP RX1 12 1 0 2 true (.object "PrayerTailings$Mine") := ⟨f_X1_12, rfl, rfl⟩
theorem f_X1_21 : xFL RX1 21 1 1 0 := ⟨xw_in 85 (by decide +kernel) (by decide +kernel), by decide, by decide, by decide⟩ -- due
theorem p_X1_21 : xFP RX1 21 1 1 0 false .int := ⟨f_X1_21, rfl, rfl⟩
theorem f_X1_25 : xFL RX1 25 1 2 0 := ⟨xw_in 86 (by decide +kernel) (by decide +kernel), by decide, by decide, by decide⟩ -- told
theorem p_X1_25 : xFP RX1 25 1 2 0 false .int := ⟨f_X1_25, rfl, rfl⟩
theorem f_X1_28 : xFL RX1 28 1 3 0 := ⟨xw_in 87 (by decide +kernel) (by decide +kernel), by decide, by decide, by decide⟩ -- place
theorem p_X1_28 : xFP RX1 28 1 3 0 false .int := ⟨f_X1_28, rfl, rfl⟩
theorem f_X1_52 : xFL RX1 52 0 0 2 := ⟨xw_in 29 (by decide +kernel) (by decide +kernel), by decide, by decide, by decide⟩ -- ore
theorem f_X1_60 : xFL RX1 60 0 1 2 := ⟨xw_in 32 (by decide +kernel) (by decide +kernel), by decide, by decide, by decide⟩ -- loose
theorem f_X1_63 : xFL RX1 63 0 2 2 := ⟨xw_in 35 (by decide +kernel) (by decide +kernel), by decide, by decide, by decide⟩ -- props
theorem f_X1_69 : xFL RX1 69 0 5 0 := ⟨xw_in 42 (by decide +kernel) (by decide +kernel), by decide, by decide, by decide⟩ -- hold
theorem p_X1_69 : xFP RX1 69 0 5 0 false .int := ⟨f_X1_69, rfl, rfl⟩
theorem f_X1_78 : xFL RX1 78 0 6 0 := ⟨xw_in 46 (by decide +kernel) (by decide +kernel), by decide, by decide, by decide⟩ -- monks
theorem f_X3_7 : xFL RX3 7 3 1 2 := ⟨xw_in 472 (by decide +kernel) (by decide +kernel), by decide, by decide, by decide⟩ -- text
theorem p_X3_7 : xFP RX3 7 3 1 2 true (.array .int) := ⟨f_X3_7, rfl, rfl⟩
theorem f_X3_13 : xFL RX3 13 3 4 0 := ⟨xw_in 475 (by decide +kernel) (by decide +kernel), by decide, by decide, by decide⟩ -- hold
theorem p_X3_13 : xFP RX3 13 3 4 0 false .int := ⟨f_X3_13, rfl, rfl⟩
theorem f_X3_17 : xFL RX3 17 3 6 2 := ⟨xw_in 477 (by decide +kernel) (by decide +kernel), by decide, by decide, by decide⟩ -- sect
theorem p_X3_17 : xFP RX3 17 3 6 2 true (.array .int) := ⟨f_X3_17, rfl, rfl⟩
theorem f_X3_20 : xFL RX3 20 3 7 2 := ⟨xw_in 478 (by decide +kernel) (by decide +kernel), by decide, by decide, by decide⟩ -- page
theorem p_X3_20 : xFP RX3 20 3 7 2 true (.array .int) := ⟨f_X3_20, rfl, rfl⟩
theorem f_X3_23 : xFL RX3 23 3 12 2 := ⟨xw_in 483 (by decide +kernel) (by decide +kernel), by decide, by decide, by decide⟩ -- readPage
theorem p_X3_23 : xFP RX3 23 3 12 2 true (.array .int) := ⟨f_X3_23, rfl, rfl⟩
theorem f_X3_26 : xFL RX3 26 3 13 2 := ⟨xw_in 484 (by decide +kernel) (by decide +kernel), by decide, by decide, by decide⟩ -- readSect
theorem p_X3_26 : xFP RX3 26 3 13 2 true (.array .int) := ⟨f_X3_26, rfl, rfl⟩
theorem f_X3_29 : xFL RX3 29 3 15 2 := ⟨xw_in 486 (by decide +kernel) (by decide +kernel), by decide, by decide, by decide⟩ -- book
theorem p_X3_29 : xFP RX3 29 3 15 2 true (.array .int) := ⟨f_X3_29, rfl, rfl⟩
theorem f_X3_32 : xFL RX3 32 3 17 2 := ⟨xw_in 488 (by decide +kernel) (by decide +kernel), by decide, by decide, by decide⟩ -- kept
theorem p_X3_32 : xFP RX3 32 3 17 2 true (.array .int) := ⟨f_X3_32, rfl, rfl⟩
theorem f_X3_35 : xFL RX3 35 3 18 2 := ⟨xw_in 489 (by decide +kernel) (by decide +kernel), by decide, by decide, by decide⟩ -- isKept
theorem p_X3_35 : xFP RX3 35 3 18 2 true (.array .boolean) := ⟨f_X3_35, rfl, rfl⟩
theorem f_X3_39 : xFL RX3 39 3 20 2 := ⟨xw_in 491 (by decide +kernel) (by decide +kernel), by decide, by decide, by decide⟩ -- seenCell
theorem p_X3_39 : xFP RX3 39 3 20 2 true (.array .int) := ⟨f_X3_39, rfl, rfl⟩
theorem f_X3_42 : xFL RX3 42 3 21 2 := ⟨xw_in 492 (by decide +kernel) (by decide +kernel), by decide, by decide, by decide⟩ -- seenBy
theorem p_X3_42 : xFP RX3 42 3 21 2 true (.array .int) := ⟨f_X3_42, rfl, rfl⟩
theorem f_X3_45 : xFL RX3 45 3 22 2 := ⟨xw_in 493 (by decide +kernel) (by decide +kernel), by decide, by decide, by decide⟩ -- tried
theorem p_X3_45 : xFP RX3 45 3 22 2 true (.array .int) := ⟨f_X3_45, rfl, rfl⟩
theorem f_X3_48 : xFL RX3 48 3 0 0 := ⟨xw_in 471 (by decide +kernel) (by decide +kernel), by decide, by decide, by decide⟩ -- thrown
theorem p_X3_48 : xFP RX3 48 3 0 0 false .int := ⟨f_X3_48, rfl, rfl⟩
theorem f_X3_51 : xFL RX3 51 3 5 0 := ⟨xw_in 476 (by decide +kernel) (by decide +kernel), by decide, by decide, by decide⟩ -- monks
theorem p_X3_51 : xFP RX3 51 3 5 0 false .int := ⟨f_X3_51, rfl, rfl⟩
theorem f_X3_62 : xFL RX3 62 3 2 0 := ⟨xw_in 473 (by decide +kernel) (by decide +kernel), by decide, by decide, by decide⟩ -- textSize
theorem p_X3_62 : xFP RX3 62 3 2 0 false .int := ⟨f_X3_62, rfl, rfl⟩
theorem f_X3_65 : xFL RX3 65 3 3 0 := ⟨xw_in 474 (by decide +kernel) (by decide +kernel), by decide, by decide, by decide⟩ -- place
theorem p_X3_65 : xFP RX3 65 3 3 0 false .int := ⟨f_X3_65, rfl, rfl⟩
theorem f_X3_74 : xFL RX3 74 3 11 0 := ⟨xw_in 482 (by decide +kernel) (by decide +kernel), by decide, by decide, by decide⟩ -- readTold
theorem p_X3_74 : xFP RX3 74 3 11 0 false .int := ⟨f_X3_74, rfl, rfl⟩
theorem f_X3_85 : xFL RX3 85 3 10 0 := ⟨xw_in 481 (by decide +kernel) (by decide +kernel), by decide, by decide, by decide⟩ -- readCells
theorem p_X3_85 : xFP RX3 85 3 10 0 false .int := ⟨f_X3_85, rfl, rfl⟩
theorem f_X3_88 : xFL RX3 88 3 9 0 := ⟨xw_in 480 (by decide +kernel) (by decide +kernel), by decide, by decide, by decide⟩ -- readMonks
theorem p_X3_88 : xFP RX3 88 3 9 0 false .int := ⟨f_X3_88, rfl, rfl⟩
theorem f_X3_98 : xFL RX3 98 3 8 0 := ⟨xw_in 479 (by decide +kernel) (by decide +kernel), by decide, by decide, by decide⟩ -- readHold
theorem p_X3_98 : xFP RX3 98 3 8 0 false .int := ⟨f_X3_98, rfl, rfl⟩
theorem f_X3_108 : xFL RX3 108 3 16 0 := ⟨xw_in 487 (by decide +kernel) (by decide +kernel), by decide, by decide, by decide⟩ -- acts
theorem p_X3_108 : xFP RX3 108 3 16 0 false .int := ⟨f_X3_108, rfl, rfl⟩
theorem f_X3_111 : xFL RX3 111 3 19 0 := ⟨xw_in 490 (by decide +kernel) (by decide +kernel), by decide, by decide, by decide⟩ -- seen
theorem p_X3_111 : xFP RX3 111 3 19 0 false .int := ⟨f_X3_111, rfl, rfl⟩
theorem f_X3_160 : xFL RX3 160 3 23 0 := ⟨xw_in 494 (by decide +kernel) (by decide +kernel), by decide, by decide, by decide⟩ -- bestRow
theorem p_X3_160 : xFP RX3 160 3 23 0 false .int := ⟨f_X3_160, rfl, rfl⟩
theorem f_X3_179 : xFL RX3 179 3 14 1 := ⟨xw_in 485 (by decide +kernel) (by decide +kernel), by decide, by decide, by decide⟩ -- seed
theorem p_X3_179 : xFP RX3 179 3 14 1 false .long := ⟨f_X3_179, rfl, rfl⟩
theorem c_X2_1 : Cond.methodLink RX2 1 Lib.objectInit ∈ xW ∧ Cond.instanceMethod Lib.objectInit ∈ xW ∧ Cond.code Lib.objectInit ⟨#[0xb1]⟩ 1 none ∈ xW := ⟨xw_in 13 (by decide +kernel) (by decide +kernel), xw_in 14 (by decide +kernel) (by decide +kernel), xw_in 15 (by decide +kernel) (by decide +kernel)⟩
theorem c_X2_15 : xCI RX2 15 Y_X1_init 0 (some RX2) := ⟨⟨by show _ ∈ xnest; decide +kernel, xw_in 2 (by decide +kernel) (by decide +kernel), xw_in 20 (by decide +kernel) (by decide +kernel), by decide +kernel⟩, rfl, xw_in 19 (by decide +kernel) (by decide +kernel), rfl⟩
theorem c_X2_22 : xCI RX2 22 Y_X0_init 0 (some RX2) := ⟨⟨by show _ ∈ xnest; decide +kernel, xw_in 3 (by decide +kernel) (by decide +kernel), xw_in 26 (by decide +kernel) (by decide +kernel), by decide +kernel⟩, rfl, xw_in 25 (by decide +kernel) (by decide +kernel), rfl⟩
theorem c_X2_50 : xCS RX2 50 Y_X2_put 3 none := ⟨⟨xw_in 147 (by decide +kernel) (by decide +kernel), xw_in 1 (by decide +kernel) (by decide +kernel), xw_in 149 (by decide +kernel) (by decide +kernel), by decide +kernel⟩, xw_in 148 (by decide +kernel) (by decide +kernel)⟩
theorem c_X2_54 : xCV RX2 54 Y_X2_readText 0 2 := ⟨⟨xw_in 158 (by decide +kernel) (by decide +kernel), xw_in 1 (by decide +kernel) (by decide +kernel), xw_in 161 (by decide +kernel) (by decide +kernel), by decide +kernel⟩, xw_in 160 (by decide +kernel) (by decide +kernel), xw_pr 0 (by decide +kernel) (by decide +kernel), by decide, rfl⟩
theorem c_X2_61 : xCV RX2 61 Y_X0_take 1 0 := ⟨⟨xw_in 239 (by decide +kernel) (by decide +kernel), xw_in 3 (by decide +kernel) (by decide +kernel), xw_in 242 (by decide +kernel) (by decide +kernel), by decide +kernel⟩, xw_in 240 (by decide +kernel) (by decide +kernel), xw_in 241 (by decide +kernel) (by decide +kernel), by decide, rfl⟩
theorem c_X2_89 : xCV RX2 89 Y_X0_oreLeft 0 0 := ⟨⟨xw_in 250 (by decide +kernel) (by decide +kernel), xw_in 3 (by decide +kernel) (by decide +kernel), xw_in 253 (by decide +kernel) (by decide +kernel), by decide +kernel⟩, xw_in 251 (by decide +kernel) (by decide +kernel), xw_in 252 (by decide +kernel) (by decide +kernel), by decide, rfl⟩
theorem c_X2_95 : xCS RX2 95 Y_X2_isCell 1 none := ⟨⟨xw_in 258 (by decide +kernel) (by decide +kernel), xw_in 1 (by decide +kernel) (by decide +kernel), xw_in 210 (by decide +kernel) (by decide +kernel), by decide +kernel⟩, xw_in 209 (by decide +kernel) (by decide +kernel)⟩
theorem c_X2_102 : xCS RX2 102 Y_X2_at 2 none := ⟨⟨xw_in 175 (by decide +kernel) (by decide +kernel), xw_in 1 (by decide +kernel) (by decide +kernel), xw_in 177 (by decide +kernel) (by decide +kernel), by decide +kernel⟩, xw_in 176 (by decide +kernel) (by decide +kernel)⟩
theorem c_X2_115 : xCV RX2 115 Y_X0_isFallen 1 0 := ⟨⟨xw_in 259 (by decide +kernel) (by decide +kernel), xw_in 3 (by decide +kernel) (by decide +kernel), xw_in 262 (by decide +kernel) (by decide +kernel), by decide +kernel⟩, xw_in 260 (by decide +kernel) (by decide +kernel), xw_in 261 (by decide +kernel) (by decide +kernel), by decide, rfl⟩
theorem c_X2_118 : xCV RX2 118 Y_X0_monksOn 1 0 := ⟨⟨xw_in 264 (by decide +kernel) (by decide +kernel), xw_in 3 (by decide +kernel) (by decide +kernel), xw_in 267 (by decide +kernel) (by decide +kernel), by decide +kernel⟩, xw_in 265 (by decide +kernel) (by decide +kernel), xw_in 266 (by decide +kernel) (by decide +kernel), by decide, rfl⟩
theorem c_X2_122 : xCV RX2 122 Y_X0_isMonk 1 0 := ⟨⟨xw_in 272 (by decide +kernel) (by decide +kernel), xw_in 3 (by decide +kernel) (by decide +kernel), xw_in 275 (by decide +kernel) (by decide +kernel), by decide +kernel⟩, xw_in 273 (by decide +kernel) (by decide +kernel), xw_in 274 (by decide +kernel) (by decide +kernel), by decide, rfl⟩
theorem c_X2_125 : xCV RX2 125 Y_X0_placeOf 1 0 := ⟨⟨xw_in 276 (by decide +kernel) (by decide +kernel), xw_in 3 (by decide +kernel) (by decide +kernel), xw_in 279 (by decide +kernel) (by decide +kernel), by decide +kernel⟩, xw_in 277 (by decide +kernel) (by decide +kernel), xw_in 278 (by decide +kernel) (by decide +kernel), by decide, rfl⟩
theorem c_X2_131 : xCV RX2 131 Y_X0_forceOf 1 0 := ⟨⟨xw_in 281 (by decide +kernel) (by decide +kernel), xw_in 3 (by decide +kernel) (by decide +kernel), xw_in 284 (by decide +kernel) (by decide +kernel), by decide +kernel⟩, xw_in 282 (by decide +kernel) (by decide +kernel), xw_in 283 (by decide +kernel) (by decide +kernel), by decide, rfl⟩
theorem c_X2_134 : xCV RX2 134 Y_X0_isLiving 1 0 := ⟨⟨xw_in 297 (by decide +kernel) (by decide +kernel), xw_in 3 (by decide +kernel) (by decide +kernel), xw_in 300 (by decide +kernel) (by decide +kernel), by decide +kernel⟩, xw_in 298 (by decide +kernel) (by decide +kernel), xw_in 299 (by decide +kernel) (by decide +kernel), by decide, rfl⟩
theorem c_X2_137 : xCV RX2 137 Y_X2_remember 0 2 := ⟨⟨xw_in 302 (by decide +kernel) (by decide +kernel), xw_in 1 (by decide +kernel) (by decide +kernel), xw_in 305 (by decide +kernel) (by decide +kernel), by decide +kernel⟩, xw_in 304 (by decide +kernel) (by decide +kernel), xw_pr 10 (by decide +kernel) (by decide +kernel), by decide, rfl⟩
theorem c_X2_140 : xCV RX2 140 Y_X0_prayer 1 0 := ⟨⟨xw_in 306 (by decide +kernel) (by decide +kernel), xw_in 3 (by decide +kernel) (by decide +kernel), xw_in 309 (by decide +kernel) (by decide +kernel), by decide +kernel⟩, xw_in 307 (by decide +kernel) (by decide +kernel), xw_in 308 (by decide +kernel) (by decide +kernel), by decide, rfl⟩
theorem c_X2_143 : xCS RX2 143 Y_J9_max_7cf53 2 none := ⟨⟨xw_in 343 (by decide +kernel) (by decide +kernel), xw_in 7 (by decide +kernel) (by decide +kernel), xw_in 345 (by decide +kernel) (by decide +kernel), by decide +kernel⟩, xw_in 344 (by decide +kernel) (by decide +kernel)⟩
theorem c_X2_152 : xCS RX2 152 Y_X2_has 2 none := ⟨⟨xw_in 351 (by decide +kernel) (by decide +kernel), xw_in 1 (by decide +kernel) (by decide +kernel), xw_in 213 (by decide +kernel) (by decide +kernel), by decide +kernel⟩, xw_in 212 (by decide +kernel) (by decide +kernel)⟩
theorem c_X2_159 : xCV RX2 159 Y_X0_living 0 0 := ⟨⟨xw_in 352 (by decide +kernel) (by decide +kernel), xw_in 3 (by decide +kernel) (by decide +kernel), xw_in 288 (by decide +kernel) (by decide +kernel), by decide +kernel⟩, xw_in 286 (by decide +kernel) (by decide +kernel), xw_in 287 (by decide +kernel) (by decide +kernel), by decide, rfl⟩
theorem c_X2_162 : xCV RX2 162 Y_X0_endDay 0 0 := ⟨⟨xw_in 357 (by decide +kernel) (by decide +kernel), xw_in 3 (by decide +kernel) (by decide +kernel), xw_in 360 (by decide +kernel) (by decide +kernel), by decide +kernel⟩, xw_in 358 (by decide +kernel) (by decide +kernel), xw_in 359 (by decide +kernel) (by decide +kernel), by decide, rfl⟩
theorem c_X2_165 : xCV RX2 165 Y_X2_breakOf 1 2 := ⟨⟨xw_in 373 (by decide +kernel) (by decide +kernel), xw_in 1 (by decide +kernel) (by decide +kernel), xw_in 376 (by decide +kernel) (by decide +kernel), by decide +kernel⟩, xw_in 375 (by decide +kernel) (by decide +kernel), xw_pr 15 (by decide +kernel) (by decide +kernel), by decide, rfl⟩
theorem c_X2_168 : xCV RX2 168 Y_X2_bestCode 1 2 := ⟨⟨xw_in 381 (by decide +kernel) (by decide +kernel), xw_in 1 (by decide +kernel) (by decide +kernel), xw_in 384 (by decide +kernel) (by decide +kernel), by decide +kernel⟩, xw_in 383 (by decide +kernel) (by decide +kernel), xw_pr 16 (by decide +kernel) (by decide +kernel), by decide, rfl⟩
theorem c_X2_171 : xCV RX2 171 Y_X2_setSong 2 2 := ⟨⟨xw_in 385 (by decide +kernel) (by decide +kernel), xw_in 1 (by decide +kernel) (by decide +kernel), xw_in 388 (by decide +kernel) (by decide +kernel), by decide +kernel⟩, xw_in 387 (by decide +kernel) (by decide +kernel), xw_pr 17 (by decide +kernel) (by decide +kernel), by decide, rfl⟩
theorem c_X2_175 : xCS RX2 175 Y_X2_figureOf 3 none := ⟨⟨xw_in 389 (by decide +kernel) (by decide +kernel), xw_in 1 (by decide +kernel) (by decide +kernel), xw_in 391 (by decide +kernel) (by decide +kernel), by decide +kernel⟩, xw_in 390 (by decide +kernel) (by decide +kernel)⟩
theorem c_X2_179 : xCV RX2 179 Y_X0_loosenBy 1 0 := ⟨⟨xw_in 400 (by decide +kernel) (by decide +kernel), xw_in 3 (by decide +kernel) (by decide +kernel), xw_in 313 (by decide +kernel) (by decide +kernel), by decide +kernel⟩, xw_in 311 (by decide +kernel) (by decide +kernel), xw_in 312 (by decide +kernel) (by decide +kernel), by decide, rfl⟩
theorem c_X2_183 : xCV RX2 183 Y_X0_propsWanting 0 0 := ⟨⟨xw_in 401 (by decide +kernel) (by decide +kernel), xw_in 3 (by decide +kernel) (by decide +kernel), xw_in 404 (by decide +kernel) (by decide +kernel), by decide +kernel⟩, xw_in 402 (by decide +kernel) (by decide +kernel), xw_in 403 (by decide +kernel) (by decide +kernel), by decide, rfl⟩
theorem c_X2_186 : xCV RX2 186 Y_X0_prayAll 1 0 := ⟨⟨xw_in 410 (by decide +kernel) (by decide +kernel), xw_in 3 (by decide +kernel) (by decide +kernel), xw_in 413 (by decide +kernel) (by decide +kernel), by decide +kernel⟩, xw_in 411 (by decide +kernel) (by decide +kernel), xw_in 412 (by decide +kernel) (by decide +kernel), by decide, rfl⟩
theorem c_X2_189 : xCV RX2 189 Y_X2_isSeenBy 1 2 := ⟨⟨xw_in 428 (by decide +kernel) (by decide +kernel), xw_in 1 (by decide +kernel) (by decide +kernel), xw_in 431 (by decide +kernel) (by decide +kernel), by decide +kernel⟩, xw_in 430 (by decide +kernel) (by decide +kernel), xw_pr 18 (by decide +kernel) (by decide +kernel), by decide, rfl⟩
theorem c_X2_192 : xCS RX2 192 Y_X2_weightOf 3 none := ⟨⟨xw_in 436 (by decide +kernel) (by decide +kernel), xw_in 1 (by decide +kernel) (by decide +kernel), xw_in 438 (by decide +kernel) (by decide +kernel), by decide +kernel⟩, xw_in 437 (by decide +kernel) (by decide +kernel)⟩
theorem c_X2_195 : xCS RX2 195 Y_X2_commonDivisor 2 none := ⟨⟨xw_in 439 (by decide +kernel) (by decide +kernel), xw_in 1 (by decide +kernel) (by decide +kernel), xw_in 441 (by decide +kernel) (by decide +kernel), by decide +kernel⟩, xw_in 440 (by decide +kernel) (by decide +kernel)⟩
theorem c_X2_202 : xCV RX2 202 Y_X2_nextTenth 0 2 := ⟨⟨xw_in 450 (by decide +kernel) (by decide +kernel), xw_in 1 (by decide +kernel) (by decide +kernel), xw_in 453 (by decide +kernel) (by decide +kernel), by decide +kernel⟩, xw_in 452 (by decide +kernel) (by decide +kernel), xw_pr 19 (by decide +kernel) (by decide +kernel), by decide, rfl⟩
theorem c_X2_205 : xCV RX2 205 Y_X1_start 0 1 := ⟨⟨xw_in 162 (by decide +kernel) (by decide +kernel), xw_in 2 (by decide +kernel) (by decide +kernel), xw_in 165 (by decide +kernel) (by decide +kernel), by decide +kernel⟩, xw_in 163 (by decide +kernel) (by decide +kernel), xw_in 164 (by decide +kernel) (by decide +kernel), by decide, rfl⟩
theorem c_X2_208 : xCV RX2 208 Y_X1_accepts 1 1 := ⟨⟨xw_in 178 (by decide +kernel) (by decide +kernel), xw_in 2 (by decide +kernel) (by decide +kernel), xw_in 181 (by decide +kernel) (by decide +kernel), by decide +kernel⟩, xw_in 179 (by decide +kernel) (by decide +kernel), xw_in 180 (by decide +kernel) (by decide +kernel), by decide, rfl⟩
theorem c_X2_211 : xCV RX2 211 Y_X1_mayEnd 0 1 := ⟨⟨xw_in 231 (by decide +kernel) (by decide +kernel), xw_in 2 (by decide +kernel) (by decide +kernel), xw_in 234 (by decide +kernel) (by decide +kernel), by decide +kernel⟩, xw_in 232 (by decide +kernel) (by decide +kernel), xw_in 233 (by decide +kernel) (by decide +kernel), by decide, rfl⟩
theorem c_X0_3 : Cond.methodLink RX0 3 Lib.objectInit ∈ xW ∧ Cond.instanceMethod Lib.objectInit ∈ xW ∧ Cond.code Lib.objectInit ⟨#[0xb1]⟩ 1 none ∈ xW := ⟨xw_in 27 (by decide +kernel) (by decide +kernel), xw_in 14 (by decide +kernel) (by decide +kernel), xw_in 15 (by decide +kernel) (by decide +kernel)⟩
theorem c_X0_31 : xCV RX0 31 Y_X0_empty 1 0 := ⟨⟨xw_in 170 (by decide +kernel) (by decide +kernel), xw_in 3 (by decide +kernel) (by decide +kernel), xw_in 173 (by decide +kernel) (by decide +kernel), by decide +kernel⟩, xw_in 172 (by decide +kernel) (by decide +kernel), xw_pr 1 (by decide +kernel) (by decide +kernel), by decide, rfl⟩
theorem c_X0_53 : (Cond.methodLink RX0 53 arraycopyName ∈ xW ∧ Cond.static arraycopyName ∈ xW ∧ Cond.initialized "java/lang/System" ∈ xW) ∧ Cond.native arraycopyName ∈ xW := ⟨⟨xw_in 243 (by decide +kernel) (by decide +kernel), xw_in 244 (by decide +kernel) (by decide +kernel), xw_in 6 (by decide +kernel) (by decide +kernel)⟩, xw_in 245 (by decide +kernel) (by decide +kernel)⟩
theorem c_X0_59 : xCS RX0 59 Y_X2_has 2 (some RX2) := ⟨⟨by show _ ∈ xnest; decide +kernel, xw_in 1 (by decide +kernel) (by decide +kernel), xw_in 213 (by decide +kernel) (by decide +kernel), by decide +kernel⟩, xw_in 212 (by decide +kernel) (by decide +kernel)⟩
theorem c_X0_63 : xCV RX0 63 Y_X0_isMonk 1 0 := ⟨⟨xw_in 301 (by decide +kernel) (by decide +kernel), xw_in 3 (by decide +kernel) (by decide +kernel), xw_in 275 (by decide +kernel) (by decide +kernel), by decide +kernel⟩, xw_in 273 (by decide +kernel) (by decide +kernel), xw_in 274 (by decide +kernel) (by decide +kernel), by decide, rfl⟩
theorem c_X0_67 : xCS RX0 67 Y_X2_at 2 (some RX2) := ⟨⟨by show _ ∈ xnest; decide +kernel, xw_in 1 (by decide +kernel) (by decide +kernel), xw_in 177 (by decide +kernel) (by decide +kernel), by decide +kernel⟩, xw_in 176 (by decide +kernel) (by decide +kernel)⟩
theorem c_X0_71 : xCS RX0 71 Y_X2_put 3 (some RX2) := ⟨⟨by show _ ∈ xnest; decide +kernel, xw_in 1 (by decide +kernel) (by decide +kernel), xw_in 149 (by decide +kernel) (by decide +kernel), by decide +kernel⟩, xw_in 148 (by decide +kernel) (by decide +kernel)⟩
theorem c_X0_75 : xCV RX0 75 Y_X0_living 0 0 := ⟨⟨xw_in 285 (by decide +kernel) (by decide +kernel), xw_in 3 (by decide +kernel) (by decide +kernel), xw_in 288 (by decide +kernel) (by decide +kernel), by decide +kernel⟩, xw_in 286 (by decide +kernel) (by decide +kernel), xw_in 287 (by decide +kernel) (by decide +kernel), by decide, rfl⟩
theorem c_X0_79 : xCV RX0 79 Y_X0_placeOf 1 0 := ⟨⟨xw_in 289 (by decide +kernel) (by decide +kernel), xw_in 3 (by decide +kernel) (by decide +kernel), xw_in 279 (by decide +kernel) (by decide +kernel), by decide +kernel⟩, xw_in 277 (by decide +kernel) (by decide +kernel), xw_in 278 (by decide +kernel) (by decide +kernel), by decide, rfl⟩
theorem c_X0_86 : xCV RX0 86 Y_X0_monksOn 1 0 := ⟨⟨xw_in 292 (by decide +kernel) (by decide +kernel), xw_in 3 (by decide +kernel) (by decide +kernel), xw_in 267 (by decide +kernel) (by decide +kernel), by decide +kernel⟩, xw_in 265 (by decide +kernel) (by decide +kernel), xw_in 266 (by decide +kernel) (by decide +kernel), by decide, rfl⟩
theorem c_X0_89 : xCV RX0 89 Y_X0_loosenBy 1 0 := ⟨⟨xw_in 310 (by decide +kernel) (by decide +kernel), xw_in 3 (by decide +kernel) (by decide +kernel), xw_in 313 (by decide +kernel) (by decide +kernel), by decide +kernel⟩, xw_in 311 (by decide +kernel) (by decide +kernel), xw_in 312 (by decide +kernel) (by decide +kernel), by decide, rfl⟩
theorem c_X0_92 : xCV RX0 92 Y_X0_waves 0 0 := ⟨⟨xw_in 323 (by decide +kernel) (by decide +kernel), xw_in 3 (by decide +kernel) (by decide +kernel), xw_in 326 (by decide +kernel) (by decide +kernel), by decide +kernel⟩, xw_in 325 (by decide +kernel) (by decide +kernel), xw_pr 12 (by decide +kernel) (by decide +kernel), by decide, rfl⟩
theorem c_X0_95 : xCV RX0 95 Y_X0_isLiving 1 0 := ⟨⟨xw_in 414 (by decide +kernel) (by decide +kernel), xw_in 3 (by decide +kernel) (by decide +kernel), xw_in 300 (by decide +kernel) (by decide +kernel), by decide +kernel⟩, xw_in 298 (by decide +kernel) (by decide +kernel), xw_in 299 (by decide +kernel) (by decide +kernel), by decide, rfl⟩
theorem c_X0_98 : xCV RX0 98 Y_X0_prayer 1 0 := ⟨⟨xw_in 415 (by decide +kernel) (by decide +kernel), xw_in 3 (by decide +kernel) (by decide +kernel), xw_in 309 (by decide +kernel) (by decide +kernel), by decide +kernel⟩, xw_in 307 (by decide +kernel) (by decide +kernel), xw_in 308 (by decide +kernel) (by decide +kernel), by decide, rfl⟩
theorem c_X0_101 : xCV RX0 101 Y_X0_loosen 2 0 := ⟨⟨xw_in 315 (by decide +kernel) (by decide +kernel), xw_in 3 (by decide +kernel) (by decide +kernel), xw_in 318 (by decide +kernel) (by decide +kernel), by decide +kernel⟩, xw_in 317 (by decide +kernel) (by decide +kernel), xw_pr 11 (by decide +kernel) (by decide +kernel), by decide, rfl⟩
theorem c_X0_105 : xCV RX0 105 Y_X0_forceOf 1 0 := ⟨⟨xw_in 314 (by decide +kernel) (by decide +kernel), xw_in 3 (by decide +kernel) (by decide +kernel), xw_in 284 (by decide +kernel) (by decide +kernel), by decide +kernel⟩, xw_in 282 (by decide +kernel) (by decide +kernel), xw_in 283 (by decide +kernel) (by decide +kernel), by decide, rfl⟩
theorem c_X0_108 : xCV RX0 108 Y_X0_isFallen 1 0 := ⟨⟨xw_in 322 (by decide +kernel) (by decide +kernel), xw_in 3 (by decide +kernel) (by decide +kernel), xw_in 262 (by decide +kernel) (by decide +kernel), by decide +kernel⟩, xw_in 260 (by decide +kernel) (by decide +kernel), xw_in 261 (by decide +kernel) (by decide +kernel), by decide, rfl⟩
theorem c_X0_111 : xCS RX0 111 Y_J9_max_7cf53 2 none := ⟨⟨xw_in 405 (by decide +kernel) (by decide +kernel), xw_in 7 (by decide +kernel) (by decide +kernel), xw_in 345 (by decide +kernel) (by decide +kernel), by decide +kernel⟩, xw_in 344 (by decide +kernel) (by decide +kernel)⟩
theorem c_X0_117 : xCS RX0 117 Y_J9_min_7cf53 2 none := ⟨⟨xw_in 319 (by decide +kernel) (by decide +kernel), xw_in 7 (by decide +kernel) (by decide +kernel), xw_in 321 (by decide +kernel) (by decide +kernel), by decide +kernel⟩, xw_in 320 (by decide +kernel) (by decide +kernel)⟩
theorem c_X0_120 : xCV RX0 120 Y_X0_tooLoose 0 0 := ⟨⟨xw_in 327 (by decide +kernel) (by decide +kernel), xw_in 3 (by decide +kernel) (by decide +kernel), xw_in 330 (by decide +kernel) (by decide +kernel), by decide +kernel⟩, xw_in 329 (by decide +kernel) (by decide +kernel), xw_pr 13 (by decide +kernel) (by decide +kernel), by decide, rfl⟩
theorem c_X0_123 : xCV RX0 123 Y_X0_fell 1 0 := ⟨⟨xw_in 331 (by decide +kernel) (by decide +kernel), xw_in 3 (by decide +kernel) (by decide +kernel), xw_in 334 (by decide +kernel) (by decide +kernel), by decide +kernel⟩, xw_in 333 (by decide +kernel) (by decide +kernel), xw_pr 14 (by decide +kernel) (by decide +kernel), by decide, rfl⟩
theorem c_X1_3 : Cond.methodLink RX1 3 Lib.objectInit ∈ xW ∧ Cond.instanceMethod Lib.objectInit ∈ xW ∧ Cond.code Lib.objectInit ⟨#[0xb1]⟩ 1 none ∈ xW := ⟨xw_in 21 (by decide +kernel) (by decide +kernel), xw_in 14 (by decide +kernel) (by decide +kernel), xw_in 15 (by decide +kernel) (by decide +kernel)⟩
theorem c_X1_11 : xCI RX1 11 Y_X0_init 0 (some RX2) := ⟨⟨by show _ ∈ xnest; decide +kernel, xw_in 3 (by decide +kernel) (by decide +kernel), xw_in 26 (by decide +kernel) (by decide +kernel), by decide +kernel⟩, rfl, xw_in 25 (by decide +kernel) (by decide +kernel), rfl⟩
theorem c_X1_18 : xCV RX1 18 Y_X0_clear 0 0 := ⟨⟨xw_in 166 (by decide +kernel) (by decide +kernel), xw_in 3 (by decide +kernel) (by decide +kernel), xw_in 169 (by decide +kernel) (by decide +kernel), by decide +kernel⟩, xw_in 167 (by decide +kernel) (by decide +kernel), xw_in 168 (by decide +kernel) (by decide +kernel), by decide, rfl⟩
theorem c_X1_31 : xCV RX1 31 Y_X1_goOn 1 1 := ⟨⟨xw_in 182 (by decide +kernel) (by decide +kernel), xw_in 2 (by decide +kernel) (by decide +kernel), xw_in 185 (by decide +kernel) (by decide +kernel), by decide +kernel⟩, xw_in 184 (by decide +kernel) (by decide +kernel), xw_pr 2 (by decide +kernel) (by decide +kernel), by decide, rfl⟩
theorem c_X1_35 : xCV RX1 35 Y_X1_acceptsHold 1 1 := ⟨⟨xw_in 186 (by decide +kernel) (by decide +kernel), xw_in 2 (by decide +kernel) (by decide +kernel), xw_in 189 (by decide +kernel) (by decide +kernel), by decide +kernel⟩, xw_in 188 (by decide +kernel) (by decide +kernel), xw_pr 3 (by decide +kernel) (by decide +kernel), by decide, rfl⟩
theorem c_X1_38 : xCV RX1 38 Y_X1_acceptsPart 1 1 := ⟨⟨xw_in 190 (by decide +kernel) (by decide +kernel), xw_in 2 (by decide +kernel) (by decide +kernel), xw_in 193 (by decide +kernel) (by decide +kernel), by decide +kernel⟩, xw_in 192 (by decide +kernel) (by decide +kernel), xw_pr 4 (by decide +kernel) (by decide +kernel), by decide, rfl⟩
theorem c_X1_41 : xCV RX1 41 Y_X1_acceptsTens 2 1 := ⟨⟨xw_in 200 (by decide +kernel) (by decide +kernel), xw_in 2 (by decide +kernel) (by decide +kernel), xw_in 203 (by decide +kernel) (by decide +kernel), by decide +kernel⟩, xw_in 202 (by decide +kernel) (by decide +kernel), xw_pr 5 (by decide +kernel) (by decide +kernel), by decide, rfl⟩
theorem c_X1_45 : xCV RX1 45 Y_X1_acceptsOnes 2 1 := ⟨⟨xw_in 204 (by decide +kernel) (by decide +kernel), xw_in 2 (by decide +kernel) (by decide +kernel), xw_in 207 (by decide +kernel) (by decide +kernel), by decide +kernel⟩, xw_in 206 (by decide +kernel) (by decide +kernel), xw_pr 6 (by decide +kernel) (by decide +kernel), by decide, rfl⟩
theorem c_X1_48 : xCV RX1 48 Y_X1_tell 0 1 := ⟨⟨xw_in 214 (by decide +kernel) (by decide +kernel), xw_in 2 (by decide +kernel) (by decide +kernel), xw_in 217 (by decide +kernel) (by decide +kernel), by decide +kernel⟩, xw_in 216 (by decide +kernel) (by decide +kernel), xw_pr 7 (by decide +kernel) (by decide +kernel), by decide, rfl⟩
theorem c_X1_56 : xCV RX1 56 Y_X1_acceptsAmount 2 1 := ⟨⟨xw_in 218 (by decide +kernel) (by decide +kernel), xw_in 2 (by decide +kernel) (by decide +kernel), xw_in 221 (by decide +kernel) (by decide +kernel), by decide +kernel⟩, xw_in 220 (by decide +kernel) (by decide +kernel), xw_pr 8 (by decide +kernel) (by decide +kernel), by decide, rfl⟩
theorem c_X1_66 : xCV RX1 66 Y_X1_acceptsSect 1 1 := ⟨⟨xw_in 223 (by decide +kernel) (by decide +kernel), xw_in 2 (by decide +kernel) (by decide +kernel), xw_in 226 (by decide +kernel) (by decide +kernel), by decide +kernel⟩, xw_in 225 (by decide +kernel) (by decide +kernel), xw_pr 9 (by decide +kernel) (by decide +kernel), by decide, rfl⟩
theorem c_X1_72 : xCS RX1 72 Y_J6_bitCount_0f7a4 1 none := ⟨⟨xw_in 194 (by decide +kernel) (by decide +kernel), xw_in 5 (by decide +kernel) (by decide +kernel), xw_in 196 (by decide +kernel) (by decide +kernel), by decide +kernel⟩, xw_in 195 (by decide +kernel) (by decide +kernel)⟩
theorem c_X1_81 : xCS RX1 81 Y_X2_isCell 1 (some RX2) := ⟨⟨by show _ ∈ xnest; decide +kernel, xw_in 1 (by decide +kernel) (by decide +kernel), xw_in 210 (by decide +kernel) (by decide +kernel), by decide +kernel⟩, xw_in 209 (by decide +kernel) (by decide +kernel)⟩
theorem c_X1_84 : xCS RX1 84 Y_X2_has 2 (some RX2) := ⟨⟨by show _ ∈ xnest; decide +kernel, xw_in 1 (by decide +kernel) (by decide +kernel), xw_in 213 (by decide +kernel) (by decide +kernel), by decide +kernel⟩, xw_in 212 (by decide +kernel) (by decide +kernel)⟩
theorem c_X1_87 : xCS RX1 87 Y_X2_put 3 (some RX2) := ⟨⟨by show _ ∈ xnest; decide +kernel, xw_in 1 (by decide +kernel) (by decide +kernel), xw_in 149 (by decide +kernel) (by decide +kernel), by decide +kernel⟩, xw_in 148 (by decide +kernel) (by decide +kernel)⟩
theorem c_X1_91 : xCV RX1 91 Y_X0_addMonk 2 0 := ⟨⟨xw_in 227 (by decide +kernel) (by decide +kernel), xw_in 3 (by decide +kernel) (by decide +kernel), xw_in 230 (by decide +kernel) (by decide +kernel), by decide +kernel⟩, xw_in 228 (by decide +kernel) (by decide +kernel), xw_in 229 (by decide +kernel) (by decide +kernel), by decide, rfl⟩
theorem c_L_9 : xCI RL 9 Y_X2_init 0 none := ⟨⟨xw_in 10 (by decide +kernel) (by decide +kernel), xw_in 1 (by decide +kernel) (by decide +kernel), xw_in 12 (by decide +kernel) (by decide +kernel), by decide +kernel⟩, rfl, xw_in 11 (by decide +kernel) (by decide +kernel), rfl⟩
theorem c_L_12 : xCI RL 12 Y_X3_init 0 none := ⟨⟨xw_in 467 (by decide +kernel) (by decide +kernel), xw_in 4 (by decide +kernel) (by decide +kernel), xw_in 469 (by decide +kernel) (by decide +kernel), by decide +kernel⟩, rfl, xw_in 468 (by decide +kernel) (by decide +kernel), rfl⟩
theorem c_L_15 : xCV RL 15 Y_X2_write 2 2 := ⟨⟨xw_in 143 (by decide +kernel) (by decide +kernel), xw_in 1 (by decide +kernel) (by decide +kernel), xw_in 146 (by decide +kernel) (by decide +kernel), by decide +kernel⟩, xw_in 144 (by decide +kernel) (by decide +kernel), xw_in 145 (by decide +kernel) (by decide +kernel), by decide, rfl⟩
theorem c_L_19 : xCV RL 19 Y_X3_write 2 3 := ⟨⟨xw_in 545 (by decide +kernel) (by decide +kernel), xw_in 4 (by decide +kernel) (by decide +kernel), xw_in 548 (by decide +kernel) (by decide +kernel), by decide +kernel⟩, xw_in 546 (by decide +kernel) (by decide +kernel), xw_in 547 (by decide +kernel) (by decide +kernel), by decide, rfl⟩
theorem c_L_20 : xCV RL 20 Y_X2_wipe 0 2 := ⟨⟨xw_in 150 (by decide +kernel) (by decide +kernel), xw_in 1 (by decide +kernel) (by decide +kernel), xw_in 153 (by decide +kernel) (by decide +kernel), by decide +kernel⟩, xw_in 151 (by decide +kernel) (by decide +kernel), xw_in 152 (by decide +kernel) (by decide +kernel), by decide, rfl⟩
theorem c_L_24 : xCV RL 24 Y_X3_wipe 0 3 := ⟨⟨xw_in 553 (by decide +kernel) (by decide +kernel), xw_in 4 (by decide +kernel) (by decide +kernel), xw_in 556 (by decide +kernel) (by decide +kernel), by decide +kernel⟩, xw_in 554 (by decide +kernel) (by decide +kernel), xw_in 555 (by decide +kernel) (by decide +kernel), by decide, rfl⟩
theorem c_L_25 : xCV RL 25 Y_X2_fault 0 2 := ⟨⟨xw_in 154 (by decide +kernel) (by decide +kernel), xw_in 1 (by decide +kernel) (by decide +kernel), xw_in 157 (by decide +kernel) (by decide +kernel), by decide +kernel⟩, xw_in 155 (by decide +kernel) (by decide +kernel), xw_in 156 (by decide +kernel) (by decide +kernel), by decide, rfl⟩
theorem c_L_28 : xCV RL 28 Y_X3_fault 0 3 := ⟨⟨xw_in 557 (by decide +kernel) (by decide +kernel), xw_in 4 (by decide +kernel) (by decide +kernel), xw_in 560 (by decide +kernel) (by decide +kernel), by decide +kernel⟩, xw_in 558 (by decide +kernel) (by decide +kernel), xw_in 559 (by decide +kernel) (by decide +kernel), by decide, rfl⟩
theorem c_L_29 : xCV RL 29 Y_X2_mine 0 2 := ⟨⟨xw_in 235 (by decide +kernel) (by decide +kernel), xw_in 1 (by decide +kernel) (by decide +kernel), xw_in 238 (by decide +kernel) (by decide +kernel), by decide +kernel⟩, xw_in 236 (by decide +kernel) (by decide +kernel), xw_in 237 (by decide +kernel) (by decide +kernel), by decide, rfl⟩
theorem c_L_32 : xCV RL 32 Y_X3_mine 0 3 := ⟨⟨xw_in 589 (by decide +kernel) (by decide +kernel), xw_in 4 (by decide +kernel) (by decide +kernel), xw_in 592 (by decide +kernel) (by decide +kernel), by decide +kernel⟩, xw_in 590 (by decide +kernel) (by decide +kernel), xw_in 591 (by decide +kernel) (by decide +kernel), by decide, rfl⟩
theorem c_L_33 : xCV RL 33 Y_X2_about 1 2 := ⟨⟨xw_in 246 (by decide +kernel) (by decide +kernel), xw_in 1 (by decide +kernel) (by decide +kernel), xw_in 249 (by decide +kernel) (by decide +kernel), by decide +kernel⟩, xw_in 247 (by decide +kernel) (by decide +kernel), xw_in 248 (by decide +kernel) (by decide +kernel), by decide, rfl⟩
theorem c_L_37 : xCV RL 37 Y_X3_about 1 3 := ⟨⟨xw_in 593 (by decide +kernel) (by decide +kernel), xw_in 4 (by decide +kernel) (by decide +kernel), xw_in 596 (by decide +kernel) (by decide +kernel), by decide +kernel⟩, xw_in 594 (by decide +kernel) (by decide +kernel), xw_in 595 (by decide +kernel) (by decide +kernel), by decide, rfl⟩
theorem c_L_38 : xCV RL 38 Y_X2_cell 2 2 := ⟨⟨xw_in 254 (by decide +kernel) (by decide +kernel), xw_in 1 (by decide +kernel) (by decide +kernel), xw_in 257 (by decide +kernel) (by decide +kernel), by decide +kernel⟩, xw_in 255 (by decide +kernel) (by decide +kernel), xw_in 256 (by decide +kernel) (by decide +kernel), by decide, rfl⟩
theorem c_L_42 : xCV RL 42 Y_X3_cell 2 3 := ⟨⟨xw_in 597 (by decide +kernel) (by decide +kernel), xw_in 4 (by decide +kernel) (by decide +kernel), xw_in 600 (by decide +kernel) (by decide +kernel), by decide +kernel⟩, xw_in 598 (by decide +kernel) (by decide +kernel), xw_in 599 (by decide +kernel) (by decide +kernel), by decide, rfl⟩
theorem c_L_43 : xCV RL 43 Y_X2_monk 2 2 := ⟨⟨xw_in 268 (by decide +kernel) (by decide +kernel), xw_in 1 (by decide +kernel) (by decide +kernel), xw_in 271 (by decide +kernel) (by decide +kernel), by decide +kernel⟩, xw_in 269 (by decide +kernel) (by decide +kernel), xw_in 270 (by decide +kernel) (by decide +kernel), by decide, rfl⟩
theorem c_L_46 : xCV RL 46 Y_X3_monk 2 3 := ⟨⟨xw_in 609 (by decide +kernel) (by decide +kernel), xw_in 4 (by decide +kernel) (by decide +kernel), xw_in 612 (by decide +kernel) (by decide +kernel), by decide +kernel⟩, xw_in 610 (by decide +kernel) (by decide +kernel), xw_in 611 (by decide +kernel) (by decide +kernel), by decide, rfl⟩
theorem c_L_47 : xCV RL 47 Y_X2_pray 1 2 := ⟨⟨xw_in 293 (by decide +kernel) (by decide +kernel), xw_in 1 (by decide +kernel) (by decide +kernel), xw_in 296 (by decide +kernel) (by decide +kernel), by decide +kernel⟩, xw_in 294 (by decide +kernel) (by decide +kernel), xw_in 295 (by decide +kernel) (by decide +kernel), by decide, rfl⟩
theorem c_L_50 : xCV RL 50 Y_X3_pray 1 3 := ⟨⟨xw_in 624 (by decide +kernel) (by decide +kernel), xw_in 4 (by decide +kernel) (by decide +kernel), xw_in 627 (by decide +kernel) (by decide +kernel), by decide +kernel⟩, xw_in 625 (by decide +kernel) (by decide +kernel), xw_in 626 (by decide +kernel) (by decide +kernel), by decide, rfl⟩
theorem c_L_51 : xCV RL 51 Y_X2_oath 1 2 := ⟨⟨xw_in 335 (by decide +kernel) (by decide +kernel), xw_in 1 (by decide +kernel) (by decide +kernel), xw_in 338 (by decide +kernel) (by decide +kernel), by decide +kernel⟩, xw_in 336 (by decide +kernel) (by decide +kernel), xw_in 337 (by decide +kernel) (by decide +kernel), by decide, rfl⟩
theorem c_L_54 : xCV RL 54 Y_X3_oath 1 3 := ⟨⟨xw_in 647 (by decide +kernel) (by decide +kernel), xw_in 4 (by decide +kernel) (by decide +kernel), xw_in 650 (by decide +kernel) (by decide +kernel), by decide +kernel⟩, xw_in 648 (by decide +kernel) (by decide +kernel), xw_in 649 (by decide +kernel) (by decide +kernel), by decide, rfl⟩
theorem c_L_55 : xCV RL 55 Y_X2_doubt 1 2 := ⟨⟨xw_in 339 (by decide +kernel) (by decide +kernel), xw_in 1 (by decide +kernel) (by decide +kernel), xw_in 342 (by decide +kernel) (by decide +kernel), by decide +kernel⟩, xw_in 340 (by decide +kernel) (by decide +kernel), xw_in 341 (by decide +kernel) (by decide +kernel), by decide, rfl⟩
theorem c_L_58 : xCV RL 58 Y_X3_doubt 1 3 := ⟨⟨xw_in 651 (by decide +kernel) (by decide +kernel), xw_in 4 (by decide +kernel) (by decide +kernel), xw_in 654 (by decide +kernel) (by decide +kernel), by decide +kernel⟩, xw_in 652 (by decide +kernel) (by decide +kernel), xw_in 653 (by decide +kernel) (by decide +kernel), by decide, rfl⟩
theorem c_L_59 : xCV RL 59 Y_X2_walk 2 2 := ⟨⟨xw_in 346 (by decide +kernel) (by decide +kernel), xw_in 1 (by decide +kernel) (by decide +kernel), xw_in 349 (by decide +kernel) (by decide +kernel), by decide +kernel⟩, xw_in 347 (by decide +kernel) (by decide +kernel), xw_in 348 (by decide +kernel) (by decide +kernel), by decide, rfl⟩
theorem c_L_62 : xCV RL 62 Y_X3_walk 2 3 := ⟨⟨xw_in 655 (by decide +kernel) (by decide +kernel), xw_in 4 (by decide +kernel) (by decide +kernel), xw_in 658 (by decide +kernel) (by decide +kernel), by decide +kernel⟩, xw_in 656 (by decide +kernel) (by decide +kernel), xw_in 657 (by decide +kernel) (by decide +kernel), by decide, rfl⟩
theorem c_L_63 : xCV RL 63 Y_X2_day 0 2 := ⟨⟨xw_in 353 (by decide +kernel) (by decide +kernel), xw_in 1 (by decide +kernel) (by decide +kernel), xw_in 356 (by decide +kernel) (by decide +kernel), by decide +kernel⟩, xw_in 354 (by decide +kernel) (by decide +kernel), xw_in 355 (by decide +kernel) (by decide +kernel), by decide, rfl⟩
theorem c_L_66 : xCV RL 66 Y_X3_day 0 3 := ⟨⟨xw_in 659 (by decide +kernel) (by decide +kernel), xw_in 4 (by decide +kernel) (by decide +kernel), xw_in 662 (by decide +kernel) (by decide +kernel), by decide +kernel⟩, xw_in 660 (by decide +kernel) (by decide +kernel), xw_in 661 (by decide +kernel) (by decide +kernel), by decide, rfl⟩
theorem c_L_67 : xCV RL 67 Y_X2_undo 0 2 := ⟨⟨xw_in 361 (by decide +kernel) (by decide +kernel), xw_in 1 (by decide +kernel) (by decide +kernel), xw_in 364 (by decide +kernel) (by decide +kernel), by decide +kernel⟩, xw_in 362 (by decide +kernel) (by decide +kernel), xw_in 363 (by decide +kernel) (by decide +kernel), by decide, rfl⟩
theorem c_L_70 : xCV RL 70 Y_X3_undo 0 3 := ⟨⟨xw_in 667 (by decide +kernel) (by decide +kernel), xw_in 4 (by decide +kernel) (by decide +kernel), xw_in 670 (by decide +kernel) (by decide +kernel), by decide +kernel⟩, xw_in 668 (by decide +kernel) (by decide +kernel), xw_in 669 (by decide +kernel) (by decide +kernel), by decide, rfl⟩
theorem c_L_71 : xCV RL 71 Y_X2_falls 1 2 := ⟨⟨xw_in 365 (by decide +kernel) (by decide +kernel), xw_in 1 (by decide +kernel) (by decide +kernel), xw_in 368 (by decide +kernel) (by decide +kernel), by decide +kernel⟩, xw_in 366 (by decide +kernel) (by decide +kernel), xw_in 367 (by decide +kernel) (by decide +kernel), by decide, rfl⟩
theorem c_L_74 : xCV RL 74 Y_X3_falls 1 3 := ⟨⟨xw_in 671 (by decide +kernel) (by decide +kernel), xw_in 4 (by decide +kernel) (by decide +kernel), xw_in 674 (by decide +kernel) (by decide +kernel), by decide +kernel⟩, xw_in 672 (by decide +kernel) (by decide +kernel), xw_in 673 (by decide +kernel) (by decide +kernel), by decide, rfl⟩
theorem c_L_75 : xCV RL 75 Y_X2_psalm 2 2 := ⟨⟨xw_in 369 (by decide +kernel) (by decide +kernel), xw_in 1 (by decide +kernel) (by decide +kernel), xw_in 372 (by decide +kernel) (by decide +kernel), by decide +kernel⟩, xw_in 370 (by decide +kernel) (by decide +kernel), xw_in 371 (by decide +kernel) (by decide +kernel), by decide, rfl⟩
theorem c_L_78 : xCV RL 78 Y_X3_psalm 2 3 := ⟨⟨xw_in 679 (by decide +kernel) (by decide +kernel), xw_in 4 (by decide +kernel) (by decide +kernel), xw_in 682 (by decide +kernel) (by decide +kernel), by decide +kernel⟩, xw_in 680 (by decide +kernel) (by decide +kernel), xw_in 681 (by decide +kernel) (by decide +kernel), by decide, rfl⟩
theorem c_L_79 : xCV RL 79 Y_X2_best 1 2 := ⟨⟨xw_in 377 (by decide +kernel) (by decide +kernel), xw_in 1 (by decide +kernel) (by decide +kernel), xw_in 380 (by decide +kernel) (by decide +kernel), by decide +kernel⟩, xw_in 378 (by decide +kernel) (by decide +kernel), xw_in 379 (by decide +kernel) (by decide +kernel), by decide, rfl⟩
theorem c_L_82 : xCV RL 82 Y_X3_best 1 3 := ⟨⟨xw_in 690 (by decide +kernel) (by decide +kernel), xw_in 4 (by decide +kernel) (by decide +kernel), xw_in 693 (by decide +kernel) (by decide +kernel), by decide +kernel⟩, xw_in 691 (by decide +kernel) (by decide +kernel), xw_in 692 (by decide +kernel) (by decide +kernel), by decide, rfl⟩
theorem c_L_83 : xCV RL 83 Y_X2_bestAt 2 2 := ⟨⟨xw_in 392 (by decide +kernel) (by decide +kernel), xw_in 1 (by decide +kernel) (by decide +kernel), xw_in 395 (by decide +kernel) (by decide +kernel), by decide +kernel⟩, xw_in 393 (by decide +kernel) (by decide +kernel), xw_in 394 (by decide +kernel) (by decide +kernel), by decide, rfl⟩
theorem c_L_86 : xCV RL 86 Y_X3_bestAt 2 3 := ⟨⟨xw_in 699 (by decide +kernel) (by decide +kernel), xw_in 4 (by decide +kernel) (by decide +kernel), xw_in 702 (by decide +kernel) (by decide +kernel), by decide +kernel⟩, xw_in 700 (by decide +kernel) (by decide +kernel), xw_in 701 (by decide +kernel) (by decide +kernel), by decide, rfl⟩
theorem c_L_87 : xCV RL 87 Y_X2_oaths 0 2 := ⟨⟨xw_in 396 (by decide +kernel) (by decide +kernel), xw_in 1 (by decide +kernel) (by decide +kernel), xw_in 399 (by decide +kernel) (by decide +kernel), by decide +kernel⟩, xw_in 397 (by decide +kernel) (by decide +kernel), xw_in 398 (by decide +kernel) (by decide +kernel), by decide, rfl⟩
theorem c_L_90 : xCV RL 90 Y_X3_oaths 0 3 := ⟨⟨xw_in 703 (by decide +kernel) (by decide +kernel), xw_in 4 (by decide +kernel) (by decide +kernel), xw_in 706 (by decide +kernel) (by decide +kernel), by decide +kernel⟩, xw_in 704 (by decide +kernel) (by decide +kernel), xw_in 705 (by decide +kernel) (by decide +kernel), by decide, rfl⟩
theorem c_L_91 : xCV RL 91 Y_X2_down 1 2 := ⟨⟨xw_in 406 (by decide +kernel) (by decide +kernel), xw_in 1 (by decide +kernel) (by decide +kernel), xw_in 409 (by decide +kernel) (by decide +kernel), by decide +kernel⟩, xw_in 407 (by decide +kernel) (by decide +kernel), xw_in 408 (by decide +kernel) (by decide +kernel), by decide, rfl⟩
theorem c_L_94 : xCV RL 94 Y_X3_down 1 3 := ⟨⟨xw_in 707 (by decide +kernel) (by decide +kernel), xw_in 4 (by decide +kernel) (by decide +kernel), xw_in 710 (by decide +kernel) (by decide +kernel), by decide +kernel⟩, xw_in 708 (by decide +kernel) (by decide +kernel), xw_in 709 (by decide +kernel) (by decide +kernel), by decide, rfl⟩
theorem c_L_95 : xCV RL 95 Y_X2_see 2 2 := ⟨⟨xw_in 416 (by decide +kernel) (by decide +kernel), xw_in 1 (by decide +kernel) (by decide +kernel), xw_in 419 (by decide +kernel) (by decide +kernel), by decide +kernel⟩, xw_in 417 (by decide +kernel) (by decide +kernel), xw_in 418 (by decide +kernel) (by decide +kernel), by decide, rfl⟩
theorem c_L_98 : xCV RL 98 Y_X3_see 2 3 := ⟨⟨xw_in 715 (by decide +kernel) (by decide +kernel), xw_in 4 (by decide +kernel) (by decide +kernel), xw_in 718 (by decide +kernel) (by decide +kernel), by decide +kernel⟩, xw_in 716 (by decide +kernel) (by decide +kernel), xw_in 717 (by decide +kernel) (by decide +kernel), by decide, rfl⟩
theorem c_L_99 : xCV RL 99 Y_X2_unsee 0 2 := ⟨⟨xw_in 420 (by decide +kernel) (by decide +kernel), xw_in 1 (by decide +kernel) (by decide +kernel), xw_in 423 (by decide +kernel) (by decide +kernel), by decide +kernel⟩, xw_in 421 (by decide +kernel) (by decide +kernel), xw_in 422 (by decide +kernel) (by decide +kernel), by decide, rfl⟩
theorem c_L_102 : xCV RL 102 Y_X3_unsee 0 3 := ⟨⟨xw_in 720 (by decide +kernel) (by decide +kernel), xw_in 4 (by decide +kernel) (by decide +kernel), xw_in 723 (by decide +kernel) (by decide +kernel), by decide +kernel⟩, xw_in 721 (by decide +kernel) (by decide +kernel), xw_in 722 (by decide +kernel) (by decide +kernel), by decide, rfl⟩
theorem c_L_103 : xCV RL 103 Y_X2_silent 1 2 := ⟨⟨xw_in 424 (by decide +kernel) (by decide +kernel), xw_in 1 (by decide +kernel) (by decide +kernel), xw_in 427 (by decide +kernel) (by decide +kernel), by decide +kernel⟩, xw_in 425 (by decide +kernel) (by decide +kernel), xw_in 426 (by decide +kernel) (by decide +kernel), by decide, rfl⟩
theorem c_L_106 : xCV RL 106 Y_X3_silent 1 3 := ⟨⟨xw_in 724 (by decide +kernel) (by decide +kernel), xw_in 4 (by decide +kernel) (by decide +kernel), xw_in 727 (by decide +kernel) (by decide +kernel), by decide +kernel⟩, xw_in 725 (by decide +kernel) (by decide +kernel), xw_in 726 (by decide +kernel) (by decide +kernel), by decide, rfl⟩
theorem c_L_107 : xCV RL 107 Y_X2_chance 3 2 := ⟨⟨xw_in 432 (by decide +kernel) (by decide +kernel), xw_in 1 (by decide +kernel) (by decide +kernel), xw_in 435 (by decide +kernel) (by decide +kernel), by decide +kernel⟩, xw_in 433 (by decide +kernel) (by decide +kernel), xw_in 434 (by decide +kernel) (by decide +kernel), by decide, rfl⟩
theorem c_L_111 : xCV RL 111 Y_X3_chance 3 3 := ⟨⟨xw_in 728 (by decide +kernel) (by decide +kernel), xw_in 4 (by decide +kernel) (by decide +kernel), xw_in 731 (by decide +kernel) (by decide +kernel), by decide +kernel⟩, xw_in 729 (by decide +kernel) (by decide +kernel), xw_in 730 (by decide +kernel) (by decide +kernel), by decide, rfl⟩
theorem c_L_112 : xCV RL 112 Y_X2_seed 1 2 := ⟨⟨xw_in 442 (by decide +kernel) (by decide +kernel), xw_in 1 (by decide +kernel) (by decide +kernel), xw_in 445 (by decide +kernel) (by decide +kernel), by decide +kernel⟩, xw_in 443 (by decide +kernel) (by decide +kernel), xw_in 444 (by decide +kernel) (by decide +kernel), by decide, rfl⟩
theorem c_L_116 : xCV RL 116 Y_X3_seed 1 3 := ⟨⟨xw_in 736 (by decide +kernel) (by decide +kernel), xw_in 4 (by decide +kernel) (by decide +kernel), xw_in 739 (by decide +kernel) (by decide +kernel), by decide +kernel⟩, xw_in 737 (by decide +kernel) (by decide +kernel), xw_in 738 (by decide +kernel) (by decide +kernel), by decide, rfl⟩
theorem c_L_117 : xCV RL 117 Y_X2_month 2 2 := ⟨⟨xw_in 446 (by decide +kernel) (by decide +kernel), xw_in 1 (by decide +kernel) (by decide +kernel), xw_in 449 (by decide +kernel) (by decide +kernel), by decide +kernel⟩, xw_in 447 (by decide +kernel) (by decide +kernel), xw_in 448 (by decide +kernel) (by decide +kernel), by decide, rfl⟩
theorem c_L_120 : xCV RL 120 Y_X3_month 2 3 := ⟨⟨xw_in 740 (by decide +kernel) (by decide +kernel), xw_in 4 (by decide +kernel) (by decide +kernel), xw_in 743 (by decide +kernel) (by decide +kernel), by decide +kernel⟩, xw_in 741 (by decide +kernel) (by decide +kernel), xw_in 742 (by decide +kernel) (by decide +kernel), by decide, rfl⟩
theorem c_L_121 : xCV RL 121 Y_X2_keep 1 2 := ⟨⟨xw_in 457 (by decide +kernel) (by decide +kernel), xw_in 1 (by decide +kernel) (by decide +kernel), xw_in 460 (by decide +kernel) (by decide +kernel), by decide +kernel⟩, xw_in 458 (by decide +kernel) (by decide +kernel), xw_in 459 (by decide +kernel) (by decide +kernel), by decide, rfl⟩
theorem c_L_124 : xCV RL 124 Y_X3_keep 1 3 := ⟨⟨xw_in 747 (by decide +kernel) (by decide +kernel), xw_in 4 (by decide +kernel) (by decide +kernel), xw_in 750 (by decide +kernel) (by decide +kernel), by decide +kernel⟩, xw_in 748 (by decide +kernel) (by decide +kernel), xw_in 749 (by decide +kernel) (by decide +kernel), by decide, rfl⟩
theorem c_L_125 : xCV RL 125 Y_X2_again 1 2 := ⟨⟨xw_in 461 (by decide +kernel) (by decide +kernel), xw_in 1 (by decide +kernel) (by decide +kernel), xw_in 464 (by decide +kernel) (by decide +kernel), by decide +kernel⟩, xw_in 462 (by decide +kernel) (by decide +kernel), xw_in 463 (by decide +kernel) (by decide +kernel), by decide, rfl⟩
theorem c_L_128 : xCV RL 128 Y_X3_again 1 3 := ⟨⟨xw_in 751 (by decide +kernel) (by decide +kernel), xw_in 4 (by decide +kernel) (by decide +kernel), xw_in 754 (by decide +kernel) (by decide +kernel), by decide +kernel⟩, xw_in 752 (by decide +kernel) (by decide +kernel), xw_in 753 (by decide +kernel) (by decide +kernel), by decide, rfl⟩
theorem c_X3_1 : Cond.methodLink RX3 1 Lib.objectInit ∈ xW ∧ Cond.instanceMethod Lib.objectInit ∈ xW ∧ Cond.code Lib.objectInit ⟨#[0xb1]⟩ 1 none ∈ xW := ⟨xw_in 470 (by decide +kernel) (by decide +kernel), xw_in 14 (by decide +kernel) (by decide +kernel), xw_in 15 (by decide +kernel) (by decide +kernel)⟩
theorem c_X3_54 : xCS RX3 54 Y_X3_in 3 none := ⟨⟨xw_in 550 (by decide +kernel) (by decide +kernel), xw_in 4 (by decide +kernel) (by decide +kernel), xw_in 552 (by decide +kernel) (by decide +kernel), by decide +kernel⟩, xw_in 551 (by decide +kernel) (by decide +kernel)⟩
theorem c_X3_70 : xCS RX3 70 Y_X3_has 2 none := ⟨⟨xw_in 582 (by decide +kernel) (by decide +kernel), xw_in 4 (by decide +kernel) (by decide +kernel), xw_in 584 (by decide +kernel) (by decide +kernel), by decide +kernel⟩, xw_in 583 (by decide +kernel) (by decide +kernel)⟩
theorem c_X3_77 : xCV RX3 77 Y_X3_readCellOf 1 3 := ⟨⟨xw_in 577 (by decide +kernel) (by decide +kernel), xw_in 4 (by decide +kernel) (by decide +kernel), xw_in 580 (by decide +kernel) (by decide +kernel), by decide +kernel⟩, xw_in 579 (by decide +kernel) (by decide +kernel), xw_pr 24 (by decide +kernel) (by decide +kernel), by decide, rfl⟩
theorem c_X3_81 : xCV RX3 81 Y_X3_figure 2 3 := ⟨⟨xw_in 565 (by decide +kernel) (by decide +kernel), xw_in 4 (by decide +kernel) (by decide +kernel), xw_in 568 (by decide +kernel) (by decide +kernel), by decide +kernel⟩, xw_in 567 (by decide +kernel) (by decide +kernel), xw_pr 21 (by decide +kernel) (by decide +kernel), by decide, rfl⟩
theorem c_X3_91 : xCV RX3 91 Y_X3_readCell 0 3 := ⟨⟨xw_in 573 (by decide +kernel) (by decide +kernel), xw_in 4 (by decide +kernel) (by decide +kernel), xw_in 576 (by decide +kernel) (by decide +kernel), by decide +kernel⟩, xw_in 575 (by decide +kernel) (by decide +kernel), xw_pr 23 (by decide +kernel) (by decide +kernel), by decide, rfl⟩
theorem c_X3_95 : xCV RX3 95 Y_X3_readMonk 0 3 := ⟨⟨xw_in 585 (by decide +kernel) (by decide +kernel), xw_in 4 (by decide +kernel) (by decide +kernel), xw_in 588 (by decide +kernel) (by decide +kernel), by decide +kernel⟩, xw_in 587 (by decide +kernel) (by decide +kernel), xw_pr 25 (by decide +kernel) (by decide +kernel), by decide, rfl⟩
theorem c_X3_101 : xCV RX3 101 Y_X3_readPart 0 3 := ⟨⟨xw_in 569 (by decide +kernel) (by decide +kernel), xw_in 4 (by decide +kernel) (by decide +kernel), xw_in 572 (by decide +kernel) (by decide +kernel), by decide +kernel⟩, xw_in 571 (by decide +kernel) (by decide +kernel), xw_pr 22 (by decide +kernel) (by decide +kernel), by decide, rfl⟩
theorem c_X3_104 : xCV RX3 104 Y_X3_readMine 0 3 := ⟨⟨xw_in 561 (by decide +kernel) (by decide +kernel), xw_in 4 (by decide +kernel) (by decide +kernel), xw_in 564 (by decide +kernel) (by decide +kernel), by decide +kernel⟩, xw_in 563 (by decide +kernel) (by decide +kernel), xw_pr 20 (by decide +kernel) (by decide +kernel), by decide, rfl⟩
theorem c_X3_114 : xCS RX3 114 Y_X3_noCell 1 none := ⟨⟨xw_in 601 (by decide +kernel) (by decide +kernel), xw_in 4 (by decide +kernel) (by decide +kernel), xw_in 603 (by decide +kernel) (by decide +kernel), by decide +kernel⟩, xw_in 602 (by decide +kernel) (by decide +kernel)⟩
theorem c_X3_118 : xCV RX3 118 Y_X3_thereOf 1 3 := ⟨⟨xw_in 605 (by decide +kernel) (by decide +kernel), xw_in 4 (by decide +kernel) (by decide +kernel), xw_in 608 (by decide +kernel) (by decide +kernel), by decide +kernel⟩, xw_in 607 (by decide +kernel) (by decide +kernel), xw_pr 26 (by decide +kernel) (by decide +kernel), by decide, rfl⟩
theorem c_X3_121 : xCS RX3 121 Y_X3_areNext 2 none := ⟨⟨xw_in 621 (by decide +kernel) (by decide +kernel), xw_in 4 (by decide +kernel) (by decide +kernel), xw_in 623 (by decide +kernel) (by decide +kernel), by decide +kernel⟩, xw_in 622 (by decide +kernel) (by decide +kernel)⟩
theorem c_X3_124 : xCV RX3 124 Y_X3_noMonk 1 3 := ⟨⟨xw_in 613 (by decide +kernel) (by decide +kernel), xw_in 4 (by decide +kernel) (by decide +kernel), xw_in 616 (by decide +kernel) (by decide +kernel), by decide +kernel⟩, xw_in 615 (by decide +kernel) (by decide +kernel), xw_pr 27 (by decide +kernel) (by decide +kernel), by decide, rfl⟩
theorem c_X3_127 : xCV RX3 127 Y_X3_timesOf 2 3 := ⟨⟨xw_in 617 (by decide +kernel) (by decide +kernel), xw_in 4 (by decide +kernel) (by decide +kernel), xw_in 620 (by decide +kernel) (by decide +kernel), by decide +kernel⟩, xw_in 619 (by decide +kernel) (by decide +kernel), xw_pr 28 (by decide +kernel) (by decide +kernel), by decide, rfl⟩
theorem c_X3_131 : xCS RX3 131 Y_X3_loosen 3 none := ⟨⟨xw_in 640 (by decide +kernel) (by decide +kernel), xw_in 4 (by decide +kernel) (by decide +kernel), xw_in 642 (by decide +kernel) (by decide +kernel), by decide +kernel⟩, xw_in 641 (by decide +kernel) (by decide +kernel)⟩
theorem c_X3_135 : xCV RX3 135 Y_X3_fall 1 3 := ⟨⟨xw_in 643 (by decide +kernel) (by decide +kernel), xw_in 4 (by decide +kernel) (by decide +kernel), xw_in 646 (by decide +kernel) (by decide +kernel), by decide +kernel⟩, xw_in 645 (by decide +kernel) (by decide +kernel), xw_pr 32 (by decide +kernel) (by decide +kernel), by decide, rfl⟩
theorem c_X3_139 : xCV RX3 139 Y_X3_noOne 1 3 := ⟨⟨xw_in 628 (by decide +kernel) (by decide +kernel), xw_in 4 (by decide +kernel) (by decide +kernel), xw_in 631 (by decide +kernel) (by decide +kernel), by decide +kernel⟩, xw_in 630 (by decide +kernel) (by decide +kernel), xw_pr 29 (by decide +kernel) (by decide +kernel), by decide, rfl⟩
theorem c_X3_142 : xCV RX3 142 Y_X3_note 0 3 := ⟨⟨xw_in 632 (by decide +kernel) (by decide +kernel), xw_in 4 (by decide +kernel) (by decide +kernel), xw_in 635 (by decide +kernel) (by decide +kernel), by decide +kernel⟩, xw_in 634 (by decide +kernel) (by decide +kernel), xw_pr 30 (by decide +kernel) (by decide +kernel), by decide, rfl⟩
theorem c_X3_145 : xCV RX3 145 Y_X3_goPray 2 3 := ⟨⟨xw_in 636 (by decide +kernel) (by decide +kernel), xw_in 4 (by decide +kernel) (by decide +kernel), xw_in 639 (by decide +kernel) (by decide +kernel), by decide +kernel⟩, xw_in 638 (by decide +kernel) (by decide +kernel), xw_pr 31 (by decide +kernel) (by decide +kernel), by decide, rfl⟩
theorem c_X3_148 : xCV RX3 148 Y_X3_goDay 1 3 := ⟨⟨xw_in 663 (by decide +kernel) (by decide +kernel), xw_in 4 (by decide +kernel) (by decide +kernel), xw_in 666 (by decide +kernel) (by decide +kernel), by decide +kernel⟩, xw_in 665 (by decide +kernel) (by decide +kernel), xw_pr 33 (by decide +kernel) (by decide +kernel), by decide, rfl⟩
theorem c_X3_151 : xCV RX3 151 Y_X3_begin 0 3 := ⟨⟨xw_in 675 (by decide +kernel) (by decide +kernel), xw_in 4 (by decide +kernel) (by decide +kernel), xw_in 678 (by decide +kernel) (by decide +kernel), by decide +kernel⟩, xw_in 677 (by decide +kernel) (by decide +kernel), xw_pr 34 (by decide +kernel) (by decide +kernel), by decide, rfl⟩
theorem c_X3_154 : xCS RX3 154 Y_X3_ten 1 none := ⟨⟨xw_in 683 (by decide +kernel) (by decide +kernel), xw_in 4 (by decide +kernel) (by decide +kernel), xw_in 685 (by decide +kernel) (by decide +kernel), by decide +kernel⟩, xw_in 684 (by decide +kernel) (by decide +kernel)⟩
theorem c_X3_157 : xCV RX3 157 Y_X3_goPsalm 2 3 := ⟨⟨xw_in 686 (by decide +kernel) (by decide +kernel), xw_in 4 (by decide +kernel) (by decide +kernel), xw_in 689 (by decide +kernel) (by decide +kernel), by decide +kernel⟩, xw_in 688 (by decide +kernel) (by decide +kernel), xw_pr 35 (by decide +kernel) (by decide +kernel), by decide, rfl⟩
theorem c_X3_165 : xCV RX3 165 Y_X3_findBest 1 3 := ⟨⟨xw_in 695 (by decide +kernel) (by decide +kernel), xw_in 4 (by decide +kernel) (by decide +kernel), xw_in 698 (by decide +kernel) (by decide +kernel), by decide +kernel⟩, xw_in 697 (by decide +kernel) (by decide +kernel), xw_pr 36 (by decide +kernel) (by decide +kernel), by decide, rfl⟩
theorem c_X3_168 : xCV RX3 168 Y_X3_prayAll 2 3 := ⟨⟨xw_in 711 (by decide +kernel) (by decide +kernel), xw_in 4 (by decide +kernel) (by decide +kernel), xw_in 714 (by decide +kernel) (by decide +kernel), by decide +kernel⟩, xw_in 713 (by decide +kernel) (by decide +kernel), xw_pr 37 (by decide +kernel) (by decide +kernel), by decide, rfl⟩
theorem c_X3_176 : xCS RX3 176 Y_X3_divisor 2 none := ⟨⟨xw_in 733 (by decide +kernel) (by decide +kernel), xw_in 4 (by decide +kernel) (by decide +kernel), xw_in 735 (by decide +kernel) (by decide +kernel), by decide +kernel⟩, xw_in 734 (by decide +kernel) (by decide +kernel)⟩
theorem n_int : Cond.arrayClass .int ∈ xW := xw_in 82 (by decide +kernel) (by decide +kernel)
theorem n_boolean : Cond.arrayClass .boolean ∈ xW := xw_in 544 (by decide +kernel) (by decide +kernel)
end
section
/-! RULES FOR NUMBERS nI; CALLS BY THEIR NUMBER OF ARGUMENTS -/
section XX
variable {G : xG} {Y Y' : xY} {Tb : xT} {o : xO} {pc pc' tgt idx : Nat} {xl : List (Option Value)} {st rest : List Value} {T T' : xT} {R R' : xR} {L L' : xL} {I I' : xI} {off : Int} {nest : Option String}
theorem xV_iincN {i k : Nat} (hd : decode Y.2.1 pc = .ok (.iinc i 1, 3) ∧ pc + 3 = pc') (hx : xl[i]? = some (some (.int (nI k)))) (ho : xlo xl i = true) (kk : xV G Y Tb o pc' (xl.set i (some (.int (nI (k + 1))))) st T R L I) : xV G Y Tb o pc xl st T R L I :=
  xV_iinc hd hx (nI_1 k) ho kk
theorem xV_ialdN {a n k : Nat} {f : Nat → Int32} (hd : decode Y.2.1 pc = .ok (.iaload, 1) ∧ pc + 1 = pc') (hr : xRow G T I a n f) (hk : k < n) (hn : n < 2 ^ 31) (kk : xV G Y Tb o pc' xl (.int (f k) :: st) T R L I) : xV G Y Tb o pc xl (.int (nI k) :: .ref a :: st) T R L I :=
  xV_iald hd hr (vp_in_nI hk hn) (by rw [nI_clamp (Nat.lt_trans hk hn)]; exact kk)
theorem xV_baldN {a n k : Nat} (hd : decode Y.2.1 pc = .ok (.baload, 1) ∧ pc + 1 = pc') (hs : xSh G T a = (5, n)) (hk : k < n) (hn : n < 2 ^ 31) (kk : xV G Y Tb o pc' xl (.int (I a k) :: st) T R L I) : xV G Y Tb o pc xl (.int (nI k) :: .ref a :: st) T R L I :=
  xV_bald hd hs (vp_in_nI hk hn) (by rw [nI_clamp (Nat.lt_trans hk hn)]; exact kk)
theorem xV_iastN {a n k : Nat} {x : Int32} (hd : decode Y.2.1 pc = .ok (.iastore, 1) ∧ pc + 1 = pc') (hs : xSh G T a = (4, n)) (hk : k < n) (hn : n < 2 ^ 31) (kk : xV G Y Tb o pc' xl st T R L (xst I a k x)) : xV G Y Tb o pc xl (.int x :: .int (nI k) :: .ref a :: st) T R L I :=
  xV_iast hd hs (vp_in_nI hk hn) (by rw [nI_clamp (Nat.lt_trans hk hn)]; exact kk)
theorem xV_bastN {a n k : Nat} {x : Int32} (hd : decode Y.2.1 pc = .ok (.bastore, 1) ∧ pc + 1 = pc') (hs : xSh G T a = (5, n)) (hk : k < n) (hn : n < 2 ^ 31) (hx : vp_nar .boolean x = x) (kk : xV G Y Tb o pc' xl st T R L (xst I a k x)) : xV G Y Tb o pc xl (.int x :: .int (nI k) :: .ref a :: st) T R L I :=
  xV_bast hd hs (vp_in_nI hk hn) hx (by rw [nI_clamp (Nat.lt_trans hk hn)]; exact kk)
theorem xV_aaldN {a n k b : Nat} (hd : decode Y.2.1 pc = .ok (.aaload, 1) ∧ pc + 1 = pc') (hs : xSh G T a = (6, n)) (hk : k < n) (hn : n < 2 ^ 31) (hb : R a k = some b) (kk : xV G Y Tb o pc' xl (.ref b :: st) T R L I) : xV G Y Tb o pc xl (.int (nI k) :: .ref a :: st) T R L I :=
  xV_aald hd hs (vp_in_nI hk hn) (by rw [nI_clamp (Nat.lt_trans hk hn)]; exact hb) kk
theorem xV_aastN {a n k b : Nat} (hd : decode Y.2.1 pc = .ok (.aastore, 1) ∧ pc + 1 = pc') (hs : xSh G T a = (6, n)) (hk : k < n) (hn : n < 2 ^ 31) (hb : (xSh G T b).1 = 0) (kk : xV G Y Tb o pc' xl st T (xsr R a k b) L I) : xV G Y Tb o pc xl (.ref b :: .int (nI k) :: .ref a :: st) T R L I :=
  xV_aast hd hs (vp_in_nI hk hn) hb (by rw [nI_clamp (Nat.lt_trans hk hn)]; exact kk)
theorem xV_alenN {a n : Nat} {f : Nat → Int32} (hd : decode Y.2.1 pc = .ok (.arraylength, 1) ∧ pc + 1 = pc') (hr : xRow G T I a n f) (k : xV G Y Tb o pc' xl (.int (nI n) :: st) T R L I) : xV G Y Tb o pc xl (.ref a :: st) T R L I :=
  xV_alen hd hr rfl k
theorem xV_alenQN {a n : Nat} (hd : decode Y.2.1 pc = .ok (.arraylength, 1) ∧ pc + 1 = pc') (hs : xSh G T a = (6, n)) (k : xV G Y Tb o pc' xl (.int (nI n) :: st) T R L I) : xV G Y Tb o pc xl (.ref a :: st) T R L I :=
  xV_alenQ hd hs rfl k
theorem xV_iaddN {a b : Nat} (hd : decode Y.2.1 pc = .ok (.iadd, 1) ∧ pc + 1 = pc') (k : xV G Y Tb o pc' xl (.int (nI (a + b)) :: st) T R L I) : xV G Y Tb o pc xl (.int (nI b) :: .int (nI a) :: st) T R L I :=
  xV_iadd hd (by rw [nI_add]; exact k)
theorem xV_imulN {a b : Nat} (hd : decode Y.2.1 pc = .ok (.imul, 1) ∧ pc + 1 = pc') (k : xV G Y Tb o pc' xl (.int (nI (a * b)) :: st) T R L I) : xV G Y Tb o pc xl (.int (nI b) :: .int (nI a) :: st) T R L I :=
  xV_imul hd (by rw [pk_mul]; exact k)
theorem xV_isubN {a b : Nat} (hd : decode Y.2.1 pc = .ok (.isub, 1) ∧ pc + 1 = pc') (h : b ≤ a) (k : xV G Y Tb o pc' xl (.int (nI (a - b)) :: st) T R L I) : xV G Y Tb o pc xl (.int (nI b) :: .int (nI a) :: st) T R L I :=
  xV_isub hd (by rw [pk_sub h]; exact k)
theorem xV_icmp_geN {a b : Nat} (hd : decode Y.2.1 pc = .ok (.if_icmp .ge off, 3) ∧ pc + 3 = pc' ∧ (pc : Int) + off = (tgt : Int)) (ha : a < 2 ^ 31) (hb : b < 2 ^ 31) (kt : b ≤ a → xV G Y Tb o tgt xl st T R L I) (kf : a < b → xV G Y Tb o pc' xl st T R L I) : xV G Y Tb o pc xl (.int (nI b) :: .int (nI a) :: st) T R L I :=
  xV_icmp_ge hd (fun h => kt ((nI_leI hb ha).mp h)) (fun h => kf (Nat.not_le.mp (fun e => h ((nI_leI hb ha).mpr e))))
theorem xV_icmp_ltN {a b : Nat} (hd : decode Y.2.1 pc = .ok (.if_icmp .lt off, 3) ∧ pc + 3 = pc' ∧ (pc : Int) + off = (tgt : Int)) (ha : a < 2 ^ 31) (hb : b < 2 ^ 31) (kt : a < b → xV G Y Tb o tgt xl st T R L I) (kf : b ≤ a → xV G Y Tb o pc' xl st T R L I) : xV G Y Tb o pc xl (.int (nI b) :: .int (nI a) :: st) T R L I :=
  xV_icmp_lt hd (fun h => kt ((nI_ltI ha hb).mp h)) (fun h => kf (Nat.not_lt.mp (fun e => h ((nI_ltI ha hb).mpr e))))
theorem xV_icmp_leN {a b : Nat} (hd : decode Y.2.1 pc = .ok (.if_icmp .le off, 3) ∧ pc + 3 = pc' ∧ (pc : Int) + off = (tgt : Int)) (ha : a < 2 ^ 31) (hb : b < 2 ^ 31) (kt : a ≤ b → xV G Y Tb o tgt xl st T R L I) (kf : b < a → xV G Y Tb o pc' xl st T R L I) : xV G Y Tb o pc xl (.int (nI b) :: .int (nI a) :: st) T R L I :=
  xV_icmp_le hd (fun h => kt ((nI_leI ha hb).mp h)) (fun h => kf (Nat.not_le.mp (fun e => h ((nI_leI ha hb).mpr e))))
theorem xV_icmp_gtN {a b : Nat} (hd : decode Y.2.1 pc = .ok (.if_icmp .gt off, 3) ∧ pc + 3 = pc' ∧ (pc : Int) + off = (tgt : Int)) (ha : a < 2 ^ 31) (hb : b < 2 ^ 31) (kt : b < a → xV G Y Tb o tgt xl st T R L I) (kf : a ≤ b → xV G Y Tb o pc' xl st T R L I) : xV G Y Tb o pc xl (.int (nI b) :: .int (nI a) :: st) T R L I :=
  xV_icmp_gt hd (fun h => kt ((nI_ltI hb ha).mp h)) (fun h => kf (Nat.not_lt.mp (fun e => h ((nI_ltI hb ha).mpr e))))
theorem xV_icmp_eqN {a b : Nat} (hd : decode Y.2.1 pc = .ok (.if_icmp .eq off, 3) ∧ pc + 3 = pc' ∧ (pc : Int) + off = (tgt : Int)) (ha : a < 2 ^ 31) (hb : b < 2 ^ 31) (kt : a = b → xV G Y Tb o tgt xl st T R L I) (kf : a ≠ b → xV G Y Tb o pc' xl st T R L I) : xV G Y Tb o pc xl (.int (nI b) :: .int (nI a) :: st) T R L I :=
  xV_icmp_eq hd (fun h => kt ((nI_eq ha hb).mp h)) (fun h => kf (fun e => h ((nI_eq ha hb).mpr e)))
theorem xV_icmp_neN {a b : Nat} (hd : decode Y.2.1 pc = .ok (.if_icmp .ne off, 3) ∧ pc + 3 = pc' ∧ (pc : Int) + off = (tgt : Int)) (ha : a < 2 ^ 31) (hb : b < 2 ^ 31) (kt : a ≠ b → xV G Y Tb o tgt xl st T R L I) (kf : a = b → xV G Y Tb o pc' xl st T R L I) : xV G Y Tb o pc xl (.int (nI b) :: .int (nI a) :: st) T R L I :=
  xV_icmp_ne hd (fun h => kt (fun e => h ((nI_eq ha hb).mpr e))) (fun h => kf ((nI_eq ha hb).mp h))
/-- a truth value as the machine has it -/
def xb (b : Bool) : Int32 := if b then 1 else 0
theorem xb_0 {b : Bool} : xb b = 0 ↔ b = false := by cases b <;> simp [xb] <;> decide
theorem xb_n0 {b : Bool} : ¬ xb b = 0 ↔ b = true := by cases b <;> simp [xb] <;> decide
theorem xb_nar (b : Bool) : narrow .boolean (.int (xb b)) = .int (xb b) := by cases b <;> rfl
theorem xb_nar2 (b : Bool) : vp_nar .boolean (xb b) = xb b := by cases b <;> rfl
theorem xV_if_eqB {b : Bool} (hd : decode Y.2.1 pc = .ok (.ifCond .eq off, 3) ∧ pc + 3 = pc' ∧ (pc : Int) + off = (tgt : Int)) (kt : b = false → xV G Y Tb o tgt xl st T R L I) (kf : b = true → xV G Y Tb o pc' xl st T R L I) : xV G Y Tb o pc xl (.int (xb b) :: st) T R L I :=
  xV_if_eq hd (fun h => kt (xb_0.mp h)) (fun h => kf (xb_n0.mp h))
theorem xV_if_neB {b : Bool} (hd : decode Y.2.1 pc = .ok (.ifCond .ne off, 3) ∧ pc + 3 = pc' ∧ (pc : Int) + off = (tgt : Int)) (kt : b = true → xV G Y Tb o tgt xl st T R L I) (kf : b = false → xV G Y Tb o pc' xl st T R L I) : xV G Y Tb o pc xl (.int (xb b) :: st) T R L I :=
  xV_if_ne hd (fun h => kt (xb_n0.mp h)) (fun h => kf (xb_0.mp h))
theorem xret_t {b : Bool} (h : b = true) : some (Value.int (nI 1)) = some (.int (xb b)) := by subst h; rfl
theorem xret_f {b : Bool} (h : b = false) : some (Value.int (nI 0)) = some (.int (xb b)) := by subst h; rfl
theorem xV_cS0i   {r : Int32} (hd : decode Y.2.1 pc = .ok (.invokestatic idx, 3) ∧ pc + 3 = pc') (hc : xCS Y.1.cls idx Y' 0 nest) (hcon : xCon G Y' [] T R L I (xD (some (.int r)) T' R' L' I')) (hcat : (rest.map fun v => v.category).sum ≤ 8)
    (hr : Y'.2.2.2.2.1 + 1 ≤ Y.2.2.2.2.1 ∧ 8 + (Y'.2.2.1 + 11) + Y'.2.2.2.2.2 ≤ Y.2.2.2.2.2) (h1 : xle Tb T) (h3 : xle T' o.1) (k : xV G Y Tb o pc' xl (.int r :: rest) T' R' L' I') : xV G Y Tb o pc xl (rest) T R L I :=
  xV_callS (av := []) (rest := rest) hd hc hcon rfl rfl hcat hr h1 h3 (fun v R2 L2 I2 h => by obtain ⟨rfl, rfl, rfl, rfl⟩ := h; exact k)
theorem xV_cS0iP   {P : Int32 → xR → xL → xI → Prop} (hd : decode Y.2.1 pc = .ok (.invokestatic idx, 3) ∧ pc + 3 = pc') (hc : xCS Y.1.cls idx Y' 0 nest) (hcon : xCon G Y' [] T R L I (T', fun v R2 L2 I2 => ∃ r, v = some (.int r) ∧ P r R2 L2 I2)) (hcat : (rest.map fun v => v.category).sum ≤ 8)
    (hr : Y'.2.2.2.2.1 + 1 ≤ Y.2.2.2.2.1 ∧ 8 + (Y'.2.2.1 + 11) + Y'.2.2.2.2.2 ≤ Y.2.2.2.2.2) (h1 : xle Tb T) (h3 : xle T' o.1) (k : ∀ r R2 L2 I2, P r R2 L2 I2 → xV G Y Tb o pc' xl (.int r :: rest) T' R2 L2 I2) : xV G Y Tb o pc xl (rest) T R L I :=
  xV_callS (av := []) (rest := rest) hd hc hcon rfl rfl hcat hr h1 h3 (fun v R2 L2 I2 h => by obtain ⟨r, rfl, h⟩ := h; exact k r R2 L2 I2 h)
theorem xV_cS0v    (hd : decode Y.2.1 pc = .ok (.invokestatic idx, 3) ∧ pc + 3 = pc') (hc : xCS Y.1.cls idx Y' 0 nest) (hcon : xCon G Y' [] T R L I (xD (none) T' R' L' I')) (hcat : (rest.map fun v => v.category).sum ≤ 8)
    (hr : Y'.2.2.2.2.1 + 1 ≤ Y.2.2.2.2.1 ∧ 8 + (Y'.2.2.1 + 11) + Y'.2.2.2.2.2 ≤ Y.2.2.2.2.2) (h1 : xle Tb T) (h3 : xle T' o.1) (k : xV G Y Tb o pc' xl (rest) T' R' L' I') : xV G Y Tb o pc xl (rest) T R L I :=
  xV_callS (av := []) (rest := rest) hd hc hcon rfl rfl hcat hr h1 h3 (fun v R2 L2 I2 h => by obtain ⟨rfl, rfl, rfl, rfl⟩ := h; exact k)
theorem xV_cS0vP   {P : xR → xL → xI → Prop} (hd : decode Y.2.1 pc = .ok (.invokestatic idx, 3) ∧ pc + 3 = pc') (hc : xCS Y.1.cls idx Y' 0 nest) (hcon : xCon G Y' [] T R L I (T', fun v R2 L2 I2 => v = none ∧ P R2 L2 I2)) (hcat : (rest.map fun v => v.category).sum ≤ 8)
    (hr : Y'.2.2.2.2.1 + 1 ≤ Y.2.2.2.2.1 ∧ 8 + (Y'.2.2.1 + 11) + Y'.2.2.2.2.2 ≤ Y.2.2.2.2.2) (h1 : xle Tb T) (h3 : xle T' o.1) (k : ∀ R2 L2 I2, P R2 L2 I2 → xV G Y Tb o pc' xl rest T' R2 L2 I2) : xV G Y Tb o pc xl (rest) T R L I :=
  xV_callS (av := []) (rest := rest) hd hc hcon rfl rfl hcat hr h1 h3 (fun v R2 L2 I2 h => by obtain ⟨rfl, h⟩ := h; exact k R2 L2 I2 h)
theorem xV_cS0l   {r : Int64} (hd : decode Y.2.1 pc = .ok (.invokestatic idx, 3) ∧ pc + 3 = pc') (hc : xCS Y.1.cls idx Y' 0 nest) (hcon : xCon G Y' [] T R L I (xD (some (.long r)) T' R' L' I')) (hcat : (rest.map fun v => v.category).sum ≤ 8)
    (hr : Y'.2.2.2.2.1 + 1 ≤ Y.2.2.2.2.1 ∧ 8 + (Y'.2.2.1 + 11) + Y'.2.2.2.2.2 ≤ Y.2.2.2.2.2) (h1 : xle Tb T) (h3 : xle T' o.1) (k : xV G Y Tb o pc' xl (.long r :: rest) T' R' L' I') : xV G Y Tb o pc xl (rest) T R L I :=
  xV_callS (av := []) (rest := rest) hd hc hcon rfl rfl hcat hr h1 h3 (fun v R2 L2 I2 h => by obtain ⟨rfl, rfl, rfl, rfl⟩ := h; exact k)
theorem xV_cS0lP   {P : Int64 → xR → xL → xI → Prop} (hd : decode Y.2.1 pc = .ok (.invokestatic idx, 3) ∧ pc + 3 = pc') (hc : xCS Y.1.cls idx Y' 0 nest) (hcon : xCon G Y' [] T R L I (T', fun v R2 L2 I2 => ∃ r, v = some (.long r) ∧ P r R2 L2 I2)) (hcat : (rest.map fun v => v.category).sum ≤ 8)
    (hr : Y'.2.2.2.2.1 + 1 ≤ Y.2.2.2.2.1 ∧ 8 + (Y'.2.2.1 + 11) + Y'.2.2.2.2.2 ≤ Y.2.2.2.2.2) (h1 : xle Tb T) (h3 : xle T' o.1) (k : ∀ r R2 L2 I2, P r R2 L2 I2 → xV G Y Tb o pc' xl (.long r :: rest) T' R2 L2 I2) : xV G Y Tb o pc xl (rest) T R L I :=
  xV_callS (av := []) (rest := rest) hd hc hcon rfl rfl hcat hr h1 h3 (fun v R2 L2 I2 h => by obtain ⟨r, rfl, h⟩ := h; exact k r R2 L2 I2 h)
theorem xV_cS1i {a1 : Value}  {r : Int32} (hd : decode Y.2.1 pc = .ok (.invokestatic idx, 3) ∧ pc + 3 = pc') (hc : xCS Y.1.cls idx Y' 1 nest) (hcon : xCon G Y' [a1] T R L I (xD (some (.int r)) T' R' L' I')) (hcat : (rest.map fun v => v.category).sum ≤ 8)
    (hr : Y'.2.2.2.2.1 + 1 ≤ Y.2.2.2.2.1 ∧ 8 + (Y'.2.2.1 + 11) + Y'.2.2.2.2.2 ≤ Y.2.2.2.2.2) (h1 : xle Tb T) (h3 : xle T' o.1) (k : xV G Y Tb o pc' xl (.int r :: rest) T' R' L' I') : xV G Y Tb o pc xl (a1 :: rest) T R L I :=
  xV_callS (av := [a1]) (rest := rest) hd hc hcon rfl rfl hcat hr h1 h3 (fun v R2 L2 I2 h => by obtain ⟨rfl, rfl, rfl, rfl⟩ := h; exact k)
theorem xV_cS1iP {a1 : Value}  {P : Int32 → xR → xL → xI → Prop} (hd : decode Y.2.1 pc = .ok (.invokestatic idx, 3) ∧ pc + 3 = pc') (hc : xCS Y.1.cls idx Y' 1 nest) (hcon : xCon G Y' [a1] T R L I (T', fun v R2 L2 I2 => ∃ r, v = some (.int r) ∧ P r R2 L2 I2)) (hcat : (rest.map fun v => v.category).sum ≤ 8)
    (hr : Y'.2.2.2.2.1 + 1 ≤ Y.2.2.2.2.1 ∧ 8 + (Y'.2.2.1 + 11) + Y'.2.2.2.2.2 ≤ Y.2.2.2.2.2) (h1 : xle Tb T) (h3 : xle T' o.1) (k : ∀ r R2 L2 I2, P r R2 L2 I2 → xV G Y Tb o pc' xl (.int r :: rest) T' R2 L2 I2) : xV G Y Tb o pc xl (a1 :: rest) T R L I :=
  xV_callS (av := [a1]) (rest := rest) hd hc hcon rfl rfl hcat hr h1 h3 (fun v R2 L2 I2 h => by obtain ⟨r, rfl, h⟩ := h; exact k r R2 L2 I2 h)
theorem xV_cS1v {a1 : Value}   (hd : decode Y.2.1 pc = .ok (.invokestatic idx, 3) ∧ pc + 3 = pc') (hc : xCS Y.1.cls idx Y' 1 nest) (hcon : xCon G Y' [a1] T R L I (xD (none) T' R' L' I')) (hcat : (rest.map fun v => v.category).sum ≤ 8)
    (hr : Y'.2.2.2.2.1 + 1 ≤ Y.2.2.2.2.1 ∧ 8 + (Y'.2.2.1 + 11) + Y'.2.2.2.2.2 ≤ Y.2.2.2.2.2) (h1 : xle Tb T) (h3 : xle T' o.1) (k : xV G Y Tb o pc' xl (rest) T' R' L' I') : xV G Y Tb o pc xl (a1 :: rest) T R L I :=
  xV_callS (av := [a1]) (rest := rest) hd hc hcon rfl rfl hcat hr h1 h3 (fun v R2 L2 I2 h => by obtain ⟨rfl, rfl, rfl, rfl⟩ := h; exact k)
theorem xV_cS1vP {a1 : Value}  {P : xR → xL → xI → Prop} (hd : decode Y.2.1 pc = .ok (.invokestatic idx, 3) ∧ pc + 3 = pc') (hc : xCS Y.1.cls idx Y' 1 nest) (hcon : xCon G Y' [a1] T R L I (T', fun v R2 L2 I2 => v = none ∧ P R2 L2 I2)) (hcat : (rest.map fun v => v.category).sum ≤ 8)
    (hr : Y'.2.2.2.2.1 + 1 ≤ Y.2.2.2.2.1 ∧ 8 + (Y'.2.2.1 + 11) + Y'.2.2.2.2.2 ≤ Y.2.2.2.2.2) (h1 : xle Tb T) (h3 : xle T' o.1) (k : ∀ R2 L2 I2, P R2 L2 I2 → xV G Y Tb o pc' xl rest T' R2 L2 I2) : xV G Y Tb o pc xl (a1 :: rest) T R L I :=
  xV_callS (av := [a1]) (rest := rest) hd hc hcon rfl rfl hcat hr h1 h3 (fun v R2 L2 I2 h => by obtain ⟨rfl, h⟩ := h; exact k R2 L2 I2 h)
theorem xV_cS1l {a1 : Value}  {r : Int64} (hd : decode Y.2.1 pc = .ok (.invokestatic idx, 3) ∧ pc + 3 = pc') (hc : xCS Y.1.cls idx Y' 1 nest) (hcon : xCon G Y' [a1] T R L I (xD (some (.long r)) T' R' L' I')) (hcat : (rest.map fun v => v.category).sum ≤ 8)
    (hr : Y'.2.2.2.2.1 + 1 ≤ Y.2.2.2.2.1 ∧ 8 + (Y'.2.2.1 + 11) + Y'.2.2.2.2.2 ≤ Y.2.2.2.2.2) (h1 : xle Tb T) (h3 : xle T' o.1) (k : xV G Y Tb o pc' xl (.long r :: rest) T' R' L' I') : xV G Y Tb o pc xl (a1 :: rest) T R L I :=
  xV_callS (av := [a1]) (rest := rest) hd hc hcon rfl rfl hcat hr h1 h3 (fun v R2 L2 I2 h => by obtain ⟨rfl, rfl, rfl, rfl⟩ := h; exact k)
theorem xV_cS1lP {a1 : Value}  {P : Int64 → xR → xL → xI → Prop} (hd : decode Y.2.1 pc = .ok (.invokestatic idx, 3) ∧ pc + 3 = pc') (hc : xCS Y.1.cls idx Y' 1 nest) (hcon : xCon G Y' [a1] T R L I (T', fun v R2 L2 I2 => ∃ r, v = some (.long r) ∧ P r R2 L2 I2)) (hcat : (rest.map fun v => v.category).sum ≤ 8)
    (hr : Y'.2.2.2.2.1 + 1 ≤ Y.2.2.2.2.1 ∧ 8 + (Y'.2.2.1 + 11) + Y'.2.2.2.2.2 ≤ Y.2.2.2.2.2) (h1 : xle Tb T) (h3 : xle T' o.1) (k : ∀ r R2 L2 I2, P r R2 L2 I2 → xV G Y Tb o pc' xl (.long r :: rest) T' R2 L2 I2) : xV G Y Tb o pc xl (a1 :: rest) T R L I :=
  xV_callS (av := [a1]) (rest := rest) hd hc hcon rfl rfl hcat hr h1 h3 (fun v R2 L2 I2 h => by obtain ⟨r, rfl, h⟩ := h; exact k r R2 L2 I2 h)
theorem xV_cS2i {a1 a2 : Value}  {r : Int32} (hd : decode Y.2.1 pc = .ok (.invokestatic idx, 3) ∧ pc + 3 = pc') (hc : xCS Y.1.cls idx Y' 2 nest) (hcon : xCon G Y' [a1, a2] T R L I (xD (some (.int r)) T' R' L' I')) (hcat : (rest.map fun v => v.category).sum ≤ 8)
    (hr : Y'.2.2.2.2.1 + 1 ≤ Y.2.2.2.2.1 ∧ 8 + (Y'.2.2.1 + 11) + Y'.2.2.2.2.2 ≤ Y.2.2.2.2.2) (h1 : xle Tb T) (h3 : xle T' o.1) (k : xV G Y Tb o pc' xl (.int r :: rest) T' R' L' I') : xV G Y Tb o pc xl (a2 :: a1 :: rest) T R L I :=
  xV_callS (av := [a1, a2]) (rest := rest) hd hc hcon rfl rfl hcat hr h1 h3 (fun v R2 L2 I2 h => by obtain ⟨rfl, rfl, rfl, rfl⟩ := h; exact k)
theorem xV_cS2iP {a1 a2 : Value}  {P : Int32 → xR → xL → xI → Prop} (hd : decode Y.2.1 pc = .ok (.invokestatic idx, 3) ∧ pc + 3 = pc') (hc : xCS Y.1.cls idx Y' 2 nest) (hcon : xCon G Y' [a1, a2] T R L I (T', fun v R2 L2 I2 => ∃ r, v = some (.int r) ∧ P r R2 L2 I2)) (hcat : (rest.map fun v => v.category).sum ≤ 8)
    (hr : Y'.2.2.2.2.1 + 1 ≤ Y.2.2.2.2.1 ∧ 8 + (Y'.2.2.1 + 11) + Y'.2.2.2.2.2 ≤ Y.2.2.2.2.2) (h1 : xle Tb T) (h3 : xle T' o.1) (k : ∀ r R2 L2 I2, P r R2 L2 I2 → xV G Y Tb o pc' xl (.int r :: rest) T' R2 L2 I2) : xV G Y Tb o pc xl (a2 :: a1 :: rest) T R L I :=
  xV_callS (av := [a1, a2]) (rest := rest) hd hc hcon rfl rfl hcat hr h1 h3 (fun v R2 L2 I2 h => by obtain ⟨r, rfl, h⟩ := h; exact k r R2 L2 I2 h)
theorem xV_cS2v {a1 a2 : Value}   (hd : decode Y.2.1 pc = .ok (.invokestatic idx, 3) ∧ pc + 3 = pc') (hc : xCS Y.1.cls idx Y' 2 nest) (hcon : xCon G Y' [a1, a2] T R L I (xD (none) T' R' L' I')) (hcat : (rest.map fun v => v.category).sum ≤ 8)
    (hr : Y'.2.2.2.2.1 + 1 ≤ Y.2.2.2.2.1 ∧ 8 + (Y'.2.2.1 + 11) + Y'.2.2.2.2.2 ≤ Y.2.2.2.2.2) (h1 : xle Tb T) (h3 : xle T' o.1) (k : xV G Y Tb o pc' xl (rest) T' R' L' I') : xV G Y Tb o pc xl (a2 :: a1 :: rest) T R L I :=
  xV_callS (av := [a1, a2]) (rest := rest) hd hc hcon rfl rfl hcat hr h1 h3 (fun v R2 L2 I2 h => by obtain ⟨rfl, rfl, rfl, rfl⟩ := h; exact k)
theorem xV_cS2vP {a1 a2 : Value}  {P : xR → xL → xI → Prop} (hd : decode Y.2.1 pc = .ok (.invokestatic idx, 3) ∧ pc + 3 = pc') (hc : xCS Y.1.cls idx Y' 2 nest) (hcon : xCon G Y' [a1, a2] T R L I (T', fun v R2 L2 I2 => v = none ∧ P R2 L2 I2)) (hcat : (rest.map fun v => v.category).sum ≤ 8)
    (hr : Y'.2.2.2.2.1 + 1 ≤ Y.2.2.2.2.1 ∧ 8 + (Y'.2.2.1 + 11) + Y'.2.2.2.2.2 ≤ Y.2.2.2.2.2) (h1 : xle Tb T) (h3 : xle T' o.1) (k : ∀ R2 L2 I2, P R2 L2 I2 → xV G Y Tb o pc' xl rest T' R2 L2 I2) : xV G Y Tb o pc xl (a2 :: a1 :: rest) T R L I :=
  xV_callS (av := [a1, a2]) (rest := rest) hd hc hcon rfl rfl hcat hr h1 h3 (fun v R2 L2 I2 h => by obtain ⟨rfl, h⟩ := h; exact k R2 L2 I2 h)
theorem xV_cS2l {a1 a2 : Value}  {r : Int64} (hd : decode Y.2.1 pc = .ok (.invokestatic idx, 3) ∧ pc + 3 = pc') (hc : xCS Y.1.cls idx Y' 2 nest) (hcon : xCon G Y' [a1, a2] T R L I (xD (some (.long r)) T' R' L' I')) (hcat : (rest.map fun v => v.category).sum ≤ 8)
    (hr : Y'.2.2.2.2.1 + 1 ≤ Y.2.2.2.2.1 ∧ 8 + (Y'.2.2.1 + 11) + Y'.2.2.2.2.2 ≤ Y.2.2.2.2.2) (h1 : xle Tb T) (h3 : xle T' o.1) (k : xV G Y Tb o pc' xl (.long r :: rest) T' R' L' I') : xV G Y Tb o pc xl (a2 :: a1 :: rest) T R L I :=
  xV_callS (av := [a1, a2]) (rest := rest) hd hc hcon rfl rfl hcat hr h1 h3 (fun v R2 L2 I2 h => by obtain ⟨rfl, rfl, rfl, rfl⟩ := h; exact k)
theorem xV_cS2lP {a1 a2 : Value}  {P : Int64 → xR → xL → xI → Prop} (hd : decode Y.2.1 pc = .ok (.invokestatic idx, 3) ∧ pc + 3 = pc') (hc : xCS Y.1.cls idx Y' 2 nest) (hcon : xCon G Y' [a1, a2] T R L I (T', fun v R2 L2 I2 => ∃ r, v = some (.long r) ∧ P r R2 L2 I2)) (hcat : (rest.map fun v => v.category).sum ≤ 8)
    (hr : Y'.2.2.2.2.1 + 1 ≤ Y.2.2.2.2.1 ∧ 8 + (Y'.2.2.1 + 11) + Y'.2.2.2.2.2 ≤ Y.2.2.2.2.2) (h1 : xle Tb T) (h3 : xle T' o.1) (k : ∀ r R2 L2 I2, P r R2 L2 I2 → xV G Y Tb o pc' xl (.long r :: rest) T' R2 L2 I2) : xV G Y Tb o pc xl (a2 :: a1 :: rest) T R L I :=
  xV_callS (av := [a1, a2]) (rest := rest) hd hc hcon rfl rfl hcat hr h1 h3 (fun v R2 L2 I2 h => by obtain ⟨r, rfl, h⟩ := h; exact k r R2 L2 I2 h)
theorem xV_cS3i {a1 a2 a3 : Value}  {r : Int32} (hd : decode Y.2.1 pc = .ok (.invokestatic idx, 3) ∧ pc + 3 = pc') (hc : xCS Y.1.cls idx Y' 3 nest) (hcon : xCon G Y' [a1, a2, a3] T R L I (xD (some (.int r)) T' R' L' I')) (hcat : (rest.map fun v => v.category).sum ≤ 8)
    (hr : Y'.2.2.2.2.1 + 1 ≤ Y.2.2.2.2.1 ∧ 8 + (Y'.2.2.1 + 11) + Y'.2.2.2.2.2 ≤ Y.2.2.2.2.2) (h1 : xle Tb T) (h3 : xle T' o.1) (k : xV G Y Tb o pc' xl (.int r :: rest) T' R' L' I') : xV G Y Tb o pc xl (a3 :: a2 :: a1 :: rest) T R L I :=
  xV_callS (av := [a1, a2, a3]) (rest := rest) hd hc hcon rfl rfl hcat hr h1 h3 (fun v R2 L2 I2 h => by obtain ⟨rfl, rfl, rfl, rfl⟩ := h; exact k)
theorem xV_cS3iP {a1 a2 a3 : Value}  {P : Int32 → xR → xL → xI → Prop} (hd : decode Y.2.1 pc = .ok (.invokestatic idx, 3) ∧ pc + 3 = pc') (hc : xCS Y.1.cls idx Y' 3 nest) (hcon : xCon G Y' [a1, a2, a3] T R L I (T', fun v R2 L2 I2 => ∃ r, v = some (.int r) ∧ P r R2 L2 I2)) (hcat : (rest.map fun v => v.category).sum ≤ 8)
    (hr : Y'.2.2.2.2.1 + 1 ≤ Y.2.2.2.2.1 ∧ 8 + (Y'.2.2.1 + 11) + Y'.2.2.2.2.2 ≤ Y.2.2.2.2.2) (h1 : xle Tb T) (h3 : xle T' o.1) (k : ∀ r R2 L2 I2, P r R2 L2 I2 → xV G Y Tb o pc' xl (.int r :: rest) T' R2 L2 I2) : xV G Y Tb o pc xl (a3 :: a2 :: a1 :: rest) T R L I :=
  xV_callS (av := [a1, a2, a3]) (rest := rest) hd hc hcon rfl rfl hcat hr h1 h3 (fun v R2 L2 I2 h => by obtain ⟨r, rfl, h⟩ := h; exact k r R2 L2 I2 h)
theorem xV_cS3v {a1 a2 a3 : Value}   (hd : decode Y.2.1 pc = .ok (.invokestatic idx, 3) ∧ pc + 3 = pc') (hc : xCS Y.1.cls idx Y' 3 nest) (hcon : xCon G Y' [a1, a2, a3] T R L I (xD (none) T' R' L' I')) (hcat : (rest.map fun v => v.category).sum ≤ 8)
    (hr : Y'.2.2.2.2.1 + 1 ≤ Y.2.2.2.2.1 ∧ 8 + (Y'.2.2.1 + 11) + Y'.2.2.2.2.2 ≤ Y.2.2.2.2.2) (h1 : xle Tb T) (h3 : xle T' o.1) (k : xV G Y Tb o pc' xl (rest) T' R' L' I') : xV G Y Tb o pc xl (a3 :: a2 :: a1 :: rest) T R L I :=
  xV_callS (av := [a1, a2, a3]) (rest := rest) hd hc hcon rfl rfl hcat hr h1 h3 (fun v R2 L2 I2 h => by obtain ⟨rfl, rfl, rfl, rfl⟩ := h; exact k)
theorem xV_cS3vP {a1 a2 a3 : Value}  {P : xR → xL → xI → Prop} (hd : decode Y.2.1 pc = .ok (.invokestatic idx, 3) ∧ pc + 3 = pc') (hc : xCS Y.1.cls idx Y' 3 nest) (hcon : xCon G Y' [a1, a2, a3] T R L I (T', fun v R2 L2 I2 => v = none ∧ P R2 L2 I2)) (hcat : (rest.map fun v => v.category).sum ≤ 8)
    (hr : Y'.2.2.2.2.1 + 1 ≤ Y.2.2.2.2.1 ∧ 8 + (Y'.2.2.1 + 11) + Y'.2.2.2.2.2 ≤ Y.2.2.2.2.2) (h1 : xle Tb T) (h3 : xle T' o.1) (k : ∀ R2 L2 I2, P R2 L2 I2 → xV G Y Tb o pc' xl rest T' R2 L2 I2) : xV G Y Tb o pc xl (a3 :: a2 :: a1 :: rest) T R L I :=
  xV_callS (av := [a1, a2, a3]) (rest := rest) hd hc hcon rfl rfl hcat hr h1 h3 (fun v R2 L2 I2 h => by obtain ⟨rfl, h⟩ := h; exact k R2 L2 I2 h)
theorem xV_cS3l {a1 a2 a3 : Value}  {r : Int64} (hd : decode Y.2.1 pc = .ok (.invokestatic idx, 3) ∧ pc + 3 = pc') (hc : xCS Y.1.cls idx Y' 3 nest) (hcon : xCon G Y' [a1, a2, a3] T R L I (xD (some (.long r)) T' R' L' I')) (hcat : (rest.map fun v => v.category).sum ≤ 8)
    (hr : Y'.2.2.2.2.1 + 1 ≤ Y.2.2.2.2.1 ∧ 8 + (Y'.2.2.1 + 11) + Y'.2.2.2.2.2 ≤ Y.2.2.2.2.2) (h1 : xle Tb T) (h3 : xle T' o.1) (k : xV G Y Tb o pc' xl (.long r :: rest) T' R' L' I') : xV G Y Tb o pc xl (a3 :: a2 :: a1 :: rest) T R L I :=
  xV_callS (av := [a1, a2, a3]) (rest := rest) hd hc hcon rfl rfl hcat hr h1 h3 (fun v R2 L2 I2 h => by obtain ⟨rfl, rfl, rfl, rfl⟩ := h; exact k)
theorem xV_cS3lP {a1 a2 a3 : Value}  {P : Int64 → xR → xL → xI → Prop} (hd : decode Y.2.1 pc = .ok (.invokestatic idx, 3) ∧ pc + 3 = pc') (hc : xCS Y.1.cls idx Y' 3 nest) (hcon : xCon G Y' [a1, a2, a3] T R L I (T', fun v R2 L2 I2 => ∃ r, v = some (.long r) ∧ P r R2 L2 I2)) (hcat : (rest.map fun v => v.category).sum ≤ 8)
    (hr : Y'.2.2.2.2.1 + 1 ≤ Y.2.2.2.2.1 ∧ 8 + (Y'.2.2.1 + 11) + Y'.2.2.2.2.2 ≤ Y.2.2.2.2.2) (h1 : xle Tb T) (h3 : xle T' o.1) (k : ∀ r R2 L2 I2, P r R2 L2 I2 → xV G Y Tb o pc' xl (.long r :: rest) T' R2 L2 I2) : xV G Y Tb o pc xl (a3 :: a2 :: a1 :: rest) T R L I :=
  xV_callS (av := [a1, a2, a3]) (rest := rest) hd hc hcon rfl rfl hcat hr h1 h3 (fun v R2 L2 I2 h => by obtain ⟨r, rfl, h⟩ := h; exact k r R2 L2 I2 h)
theorem xV_cV0i  {b ci : Nat} {r : Int32} (hd : decode Y.2.1 pc = .ok (.invokevirtual idx, 3) ∧ pc + 3 = pc') (hc : xCV Y.1.cls idx Y' 0 ci) (hsh : (xSh G T b).1 = ci) (hcon : xCon G Y' [.ref b] T R L I (xD (some (.int r)) T' R' L' I')) (hcat : (rest.map fun v => v.category).sum ≤ 8)
    (hr : Y'.2.2.2.2.1 + 1 ≤ Y.2.2.2.2.1 ∧ 8 + (Y'.2.2.1 + 11) + Y'.2.2.2.2.2 ≤ Y.2.2.2.2.2) (h1 : xle Tb T) (h3 : xle T' o.1) (k : xV G Y Tb o pc' xl (.int r :: rest) T' R' L' I') : xV G Y Tb o pc xl (.ref b :: rest) T R L I :=
  xV_callV (av := []) (rest := rest) hd hc hsh hcon rfl rfl hcat hr h1 h3 (fun v R2 L2 I2 h => by obtain ⟨rfl, rfl, rfl, rfl⟩ := h; exact k)
theorem xV_cV0iP  {b ci : Nat} {P : Int32 → xR → xL → xI → Prop} (hd : decode Y.2.1 pc = .ok (.invokevirtual idx, 3) ∧ pc + 3 = pc') (hc : xCV Y.1.cls idx Y' 0 ci) (hsh : (xSh G T b).1 = ci) (hcon : xCon G Y' [.ref b] T R L I (T', fun v R2 L2 I2 => ∃ r, v = some (.int r) ∧ P r R2 L2 I2)) (hcat : (rest.map fun v => v.category).sum ≤ 8)
    (hr : Y'.2.2.2.2.1 + 1 ≤ Y.2.2.2.2.1 ∧ 8 + (Y'.2.2.1 + 11) + Y'.2.2.2.2.2 ≤ Y.2.2.2.2.2) (h1 : xle Tb T) (h3 : xle T' o.1) (k : ∀ r R2 L2 I2, P r R2 L2 I2 → xV G Y Tb o pc' xl (.int r :: rest) T' R2 L2 I2) : xV G Y Tb o pc xl (.ref b :: rest) T R L I :=
  xV_callV (av := []) (rest := rest) hd hc hsh hcon rfl rfl hcat hr h1 h3 (fun v R2 L2 I2 h => by obtain ⟨r, rfl, h⟩ := h; exact k r R2 L2 I2 h)
theorem xV_cV0v  {b ci : Nat}  (hd : decode Y.2.1 pc = .ok (.invokevirtual idx, 3) ∧ pc + 3 = pc') (hc : xCV Y.1.cls idx Y' 0 ci) (hsh : (xSh G T b).1 = ci) (hcon : xCon G Y' [.ref b] T R L I (xD (none) T' R' L' I')) (hcat : (rest.map fun v => v.category).sum ≤ 8)
    (hr : Y'.2.2.2.2.1 + 1 ≤ Y.2.2.2.2.1 ∧ 8 + (Y'.2.2.1 + 11) + Y'.2.2.2.2.2 ≤ Y.2.2.2.2.2) (h1 : xle Tb T) (h3 : xle T' o.1) (k : xV G Y Tb o pc' xl (rest) T' R' L' I') : xV G Y Tb o pc xl (.ref b :: rest) T R L I :=
  xV_callV (av := []) (rest := rest) hd hc hsh hcon rfl rfl hcat hr h1 h3 (fun v R2 L2 I2 h => by obtain ⟨rfl, rfl, rfl, rfl⟩ := h; exact k)
theorem xV_cV0vP  {b ci : Nat} {P : xR → xL → xI → Prop} (hd : decode Y.2.1 pc = .ok (.invokevirtual idx, 3) ∧ pc + 3 = pc') (hc : xCV Y.1.cls idx Y' 0 ci) (hsh : (xSh G T b).1 = ci) (hcon : xCon G Y' [.ref b] T R L I (T', fun v R2 L2 I2 => v = none ∧ P R2 L2 I2)) (hcat : (rest.map fun v => v.category).sum ≤ 8)
    (hr : Y'.2.2.2.2.1 + 1 ≤ Y.2.2.2.2.1 ∧ 8 + (Y'.2.2.1 + 11) + Y'.2.2.2.2.2 ≤ Y.2.2.2.2.2) (h1 : xle Tb T) (h3 : xle T' o.1) (k : ∀ R2 L2 I2, P R2 L2 I2 → xV G Y Tb o pc' xl rest T' R2 L2 I2) : xV G Y Tb o pc xl (.ref b :: rest) T R L I :=
  xV_callV (av := []) (rest := rest) hd hc hsh hcon rfl rfl hcat hr h1 h3 (fun v R2 L2 I2 h => by obtain ⟨rfl, h⟩ := h; exact k R2 L2 I2 h)
theorem xV_cV0l  {b ci : Nat} {r : Int64} (hd : decode Y.2.1 pc = .ok (.invokevirtual idx, 3) ∧ pc + 3 = pc') (hc : xCV Y.1.cls idx Y' 0 ci) (hsh : (xSh G T b).1 = ci) (hcon : xCon G Y' [.ref b] T R L I (xD (some (.long r)) T' R' L' I')) (hcat : (rest.map fun v => v.category).sum ≤ 8)
    (hr : Y'.2.2.2.2.1 + 1 ≤ Y.2.2.2.2.1 ∧ 8 + (Y'.2.2.1 + 11) + Y'.2.2.2.2.2 ≤ Y.2.2.2.2.2) (h1 : xle Tb T) (h3 : xle T' o.1) (k : xV G Y Tb o pc' xl (.long r :: rest) T' R' L' I') : xV G Y Tb o pc xl (.ref b :: rest) T R L I :=
  xV_callV (av := []) (rest := rest) hd hc hsh hcon rfl rfl hcat hr h1 h3 (fun v R2 L2 I2 h => by obtain ⟨rfl, rfl, rfl, rfl⟩ := h; exact k)
theorem xV_cV0lP  {b ci : Nat} {P : Int64 → xR → xL → xI → Prop} (hd : decode Y.2.1 pc = .ok (.invokevirtual idx, 3) ∧ pc + 3 = pc') (hc : xCV Y.1.cls idx Y' 0 ci) (hsh : (xSh G T b).1 = ci) (hcon : xCon G Y' [.ref b] T R L I (T', fun v R2 L2 I2 => ∃ r, v = some (.long r) ∧ P r R2 L2 I2)) (hcat : (rest.map fun v => v.category).sum ≤ 8)
    (hr : Y'.2.2.2.2.1 + 1 ≤ Y.2.2.2.2.1 ∧ 8 + (Y'.2.2.1 + 11) + Y'.2.2.2.2.2 ≤ Y.2.2.2.2.2) (h1 : xle Tb T) (h3 : xle T' o.1) (k : ∀ r R2 L2 I2, P r R2 L2 I2 → xV G Y Tb o pc' xl (.long r :: rest) T' R2 L2 I2) : xV G Y Tb o pc xl (.ref b :: rest) T R L I :=
  xV_callV (av := []) (rest := rest) hd hc hsh hcon rfl rfl hcat hr h1 h3 (fun v R2 L2 I2 h => by obtain ⟨r, rfl, h⟩ := h; exact k r R2 L2 I2 h)
theorem xV_cV1i {a1 : Value} {b ci : Nat} {r : Int32} (hd : decode Y.2.1 pc = .ok (.invokevirtual idx, 3) ∧ pc + 3 = pc') (hc : xCV Y.1.cls idx Y' 1 ci) (hsh : (xSh G T b).1 = ci) (hcon : xCon G Y' [.ref b, a1] T R L I (xD (some (.int r)) T' R' L' I')) (hcat : (rest.map fun v => v.category).sum ≤ 8)
    (hr : Y'.2.2.2.2.1 + 1 ≤ Y.2.2.2.2.1 ∧ 8 + (Y'.2.2.1 + 11) + Y'.2.2.2.2.2 ≤ Y.2.2.2.2.2) (h1 : xle Tb T) (h3 : xle T' o.1) (k : xV G Y Tb o pc' xl (.int r :: rest) T' R' L' I') : xV G Y Tb o pc xl (a1 :: .ref b :: rest) T R L I :=
  xV_callV (av := [a1]) (rest := rest) hd hc hsh hcon rfl rfl hcat hr h1 h3 (fun v R2 L2 I2 h => by obtain ⟨rfl, rfl, rfl, rfl⟩ := h; exact k)
theorem xV_cV1iP {a1 : Value} {b ci : Nat} {P : Int32 → xR → xL → xI → Prop} (hd : decode Y.2.1 pc = .ok (.invokevirtual idx, 3) ∧ pc + 3 = pc') (hc : xCV Y.1.cls idx Y' 1 ci) (hsh : (xSh G T b).1 = ci) (hcon : xCon G Y' [.ref b, a1] T R L I (T', fun v R2 L2 I2 => ∃ r, v = some (.int r) ∧ P r R2 L2 I2)) (hcat : (rest.map fun v => v.category).sum ≤ 8)
    (hr : Y'.2.2.2.2.1 + 1 ≤ Y.2.2.2.2.1 ∧ 8 + (Y'.2.2.1 + 11) + Y'.2.2.2.2.2 ≤ Y.2.2.2.2.2) (h1 : xle Tb T) (h3 : xle T' o.1) (k : ∀ r R2 L2 I2, P r R2 L2 I2 → xV G Y Tb o pc' xl (.int r :: rest) T' R2 L2 I2) : xV G Y Tb o pc xl (a1 :: .ref b :: rest) T R L I :=
  xV_callV (av := [a1]) (rest := rest) hd hc hsh hcon rfl rfl hcat hr h1 h3 (fun v R2 L2 I2 h => by obtain ⟨r, rfl, h⟩ := h; exact k r R2 L2 I2 h)
theorem xV_cV1v {a1 : Value} {b ci : Nat}  (hd : decode Y.2.1 pc = .ok (.invokevirtual idx, 3) ∧ pc + 3 = pc') (hc : xCV Y.1.cls idx Y' 1 ci) (hsh : (xSh G T b).1 = ci) (hcon : xCon G Y' [.ref b, a1] T R L I (xD (none) T' R' L' I')) (hcat : (rest.map fun v => v.category).sum ≤ 8)
    (hr : Y'.2.2.2.2.1 + 1 ≤ Y.2.2.2.2.1 ∧ 8 + (Y'.2.2.1 + 11) + Y'.2.2.2.2.2 ≤ Y.2.2.2.2.2) (h1 : xle Tb T) (h3 : xle T' o.1) (k : xV G Y Tb o pc' xl (rest) T' R' L' I') : xV G Y Tb o pc xl (a1 :: .ref b :: rest) T R L I :=
  xV_callV (av := [a1]) (rest := rest) hd hc hsh hcon rfl rfl hcat hr h1 h3 (fun v R2 L2 I2 h => by obtain ⟨rfl, rfl, rfl, rfl⟩ := h; exact k)
theorem xV_cV1vP {a1 : Value} {b ci : Nat} {P : xR → xL → xI → Prop} (hd : decode Y.2.1 pc = .ok (.invokevirtual idx, 3) ∧ pc + 3 = pc') (hc : xCV Y.1.cls idx Y' 1 ci) (hsh : (xSh G T b).1 = ci) (hcon : xCon G Y' [.ref b, a1] T R L I (T', fun v R2 L2 I2 => v = none ∧ P R2 L2 I2)) (hcat : (rest.map fun v => v.category).sum ≤ 8)
    (hr : Y'.2.2.2.2.1 + 1 ≤ Y.2.2.2.2.1 ∧ 8 + (Y'.2.2.1 + 11) + Y'.2.2.2.2.2 ≤ Y.2.2.2.2.2) (h1 : xle Tb T) (h3 : xle T' o.1) (k : ∀ R2 L2 I2, P R2 L2 I2 → xV G Y Tb o pc' xl rest T' R2 L2 I2) : xV G Y Tb o pc xl (a1 :: .ref b :: rest) T R L I :=
  xV_callV (av := [a1]) (rest := rest) hd hc hsh hcon rfl rfl hcat hr h1 h3 (fun v R2 L2 I2 h => by obtain ⟨rfl, h⟩ := h; exact k R2 L2 I2 h)
theorem xV_cV1l {a1 : Value} {b ci : Nat} {r : Int64} (hd : decode Y.2.1 pc = .ok (.invokevirtual idx, 3) ∧ pc + 3 = pc') (hc : xCV Y.1.cls idx Y' 1 ci) (hsh : (xSh G T b).1 = ci) (hcon : xCon G Y' [.ref b, a1] T R L I (xD (some (.long r)) T' R' L' I')) (hcat : (rest.map fun v => v.category).sum ≤ 8)
    (hr : Y'.2.2.2.2.1 + 1 ≤ Y.2.2.2.2.1 ∧ 8 + (Y'.2.2.1 + 11) + Y'.2.2.2.2.2 ≤ Y.2.2.2.2.2) (h1 : xle Tb T) (h3 : xle T' o.1) (k : xV G Y Tb o pc' xl (.long r :: rest) T' R' L' I') : xV G Y Tb o pc xl (a1 :: .ref b :: rest) T R L I :=
  xV_callV (av := [a1]) (rest := rest) hd hc hsh hcon rfl rfl hcat hr h1 h3 (fun v R2 L2 I2 h => by obtain ⟨rfl, rfl, rfl, rfl⟩ := h; exact k)
theorem xV_cV1lP {a1 : Value} {b ci : Nat} {P : Int64 → xR → xL → xI → Prop} (hd : decode Y.2.1 pc = .ok (.invokevirtual idx, 3) ∧ pc + 3 = pc') (hc : xCV Y.1.cls idx Y' 1 ci) (hsh : (xSh G T b).1 = ci) (hcon : xCon G Y' [.ref b, a1] T R L I (T', fun v R2 L2 I2 => ∃ r, v = some (.long r) ∧ P r R2 L2 I2)) (hcat : (rest.map fun v => v.category).sum ≤ 8)
    (hr : Y'.2.2.2.2.1 + 1 ≤ Y.2.2.2.2.1 ∧ 8 + (Y'.2.2.1 + 11) + Y'.2.2.2.2.2 ≤ Y.2.2.2.2.2) (h1 : xle Tb T) (h3 : xle T' o.1) (k : ∀ r R2 L2 I2, P r R2 L2 I2 → xV G Y Tb o pc' xl (.long r :: rest) T' R2 L2 I2) : xV G Y Tb o pc xl (a1 :: .ref b :: rest) T R L I :=
  xV_callV (av := [a1]) (rest := rest) hd hc hsh hcon rfl rfl hcat hr h1 h3 (fun v R2 L2 I2 h => by obtain ⟨r, rfl, h⟩ := h; exact k r R2 L2 I2 h)
theorem xV_cV2i {a1 a2 : Value} {b ci : Nat} {r : Int32} (hd : decode Y.2.1 pc = .ok (.invokevirtual idx, 3) ∧ pc + 3 = pc') (hc : xCV Y.1.cls idx Y' 2 ci) (hsh : (xSh G T b).1 = ci) (hcon : xCon G Y' [.ref b, a1, a2] T R L I (xD (some (.int r)) T' R' L' I')) (hcat : (rest.map fun v => v.category).sum ≤ 8)
    (hr : Y'.2.2.2.2.1 + 1 ≤ Y.2.2.2.2.1 ∧ 8 + (Y'.2.2.1 + 11) + Y'.2.2.2.2.2 ≤ Y.2.2.2.2.2) (h1 : xle Tb T) (h3 : xle T' o.1) (k : xV G Y Tb o pc' xl (.int r :: rest) T' R' L' I') : xV G Y Tb o pc xl (a2 :: a1 :: .ref b :: rest) T R L I :=
  xV_callV (av := [a1, a2]) (rest := rest) hd hc hsh hcon rfl rfl hcat hr h1 h3 (fun v R2 L2 I2 h => by obtain ⟨rfl, rfl, rfl, rfl⟩ := h; exact k)
theorem xV_cV2iP {a1 a2 : Value} {b ci : Nat} {P : Int32 → xR → xL → xI → Prop} (hd : decode Y.2.1 pc = .ok (.invokevirtual idx, 3) ∧ pc + 3 = pc') (hc : xCV Y.1.cls idx Y' 2 ci) (hsh : (xSh G T b).1 = ci) (hcon : xCon G Y' [.ref b, a1, a2] T R L I (T', fun v R2 L2 I2 => ∃ r, v = some (.int r) ∧ P r R2 L2 I2)) (hcat : (rest.map fun v => v.category).sum ≤ 8)
    (hr : Y'.2.2.2.2.1 + 1 ≤ Y.2.2.2.2.1 ∧ 8 + (Y'.2.2.1 + 11) + Y'.2.2.2.2.2 ≤ Y.2.2.2.2.2) (h1 : xle Tb T) (h3 : xle T' o.1) (k : ∀ r R2 L2 I2, P r R2 L2 I2 → xV G Y Tb o pc' xl (.int r :: rest) T' R2 L2 I2) : xV G Y Tb o pc xl (a2 :: a1 :: .ref b :: rest) T R L I :=
  xV_callV (av := [a1, a2]) (rest := rest) hd hc hsh hcon rfl rfl hcat hr h1 h3 (fun v R2 L2 I2 h => by obtain ⟨r, rfl, h⟩ := h; exact k r R2 L2 I2 h)
theorem xV_cV2v {a1 a2 : Value} {b ci : Nat}  (hd : decode Y.2.1 pc = .ok (.invokevirtual idx, 3) ∧ pc + 3 = pc') (hc : xCV Y.1.cls idx Y' 2 ci) (hsh : (xSh G T b).1 = ci) (hcon : xCon G Y' [.ref b, a1, a2] T R L I (xD (none) T' R' L' I')) (hcat : (rest.map fun v => v.category).sum ≤ 8)
    (hr : Y'.2.2.2.2.1 + 1 ≤ Y.2.2.2.2.1 ∧ 8 + (Y'.2.2.1 + 11) + Y'.2.2.2.2.2 ≤ Y.2.2.2.2.2) (h1 : xle Tb T) (h3 : xle T' o.1) (k : xV G Y Tb o pc' xl (rest) T' R' L' I') : xV G Y Tb o pc xl (a2 :: a1 :: .ref b :: rest) T R L I :=
  xV_callV (av := [a1, a2]) (rest := rest) hd hc hsh hcon rfl rfl hcat hr h1 h3 (fun v R2 L2 I2 h => by obtain ⟨rfl, rfl, rfl, rfl⟩ := h; exact k)
theorem xV_cV2vP {a1 a2 : Value} {b ci : Nat} {P : xR → xL → xI → Prop} (hd : decode Y.2.1 pc = .ok (.invokevirtual idx, 3) ∧ pc + 3 = pc') (hc : xCV Y.1.cls idx Y' 2 ci) (hsh : (xSh G T b).1 = ci) (hcon : xCon G Y' [.ref b, a1, a2] T R L I (T', fun v R2 L2 I2 => v = none ∧ P R2 L2 I2)) (hcat : (rest.map fun v => v.category).sum ≤ 8)
    (hr : Y'.2.2.2.2.1 + 1 ≤ Y.2.2.2.2.1 ∧ 8 + (Y'.2.2.1 + 11) + Y'.2.2.2.2.2 ≤ Y.2.2.2.2.2) (h1 : xle Tb T) (h3 : xle T' o.1) (k : ∀ R2 L2 I2, P R2 L2 I2 → xV G Y Tb o pc' xl rest T' R2 L2 I2) : xV G Y Tb o pc xl (a2 :: a1 :: .ref b :: rest) T R L I :=
  xV_callV (av := [a1, a2]) (rest := rest) hd hc hsh hcon rfl rfl hcat hr h1 h3 (fun v R2 L2 I2 h => by obtain ⟨rfl, h⟩ := h; exact k R2 L2 I2 h)
theorem xV_cV2l {a1 a2 : Value} {b ci : Nat} {r : Int64} (hd : decode Y.2.1 pc = .ok (.invokevirtual idx, 3) ∧ pc + 3 = pc') (hc : xCV Y.1.cls idx Y' 2 ci) (hsh : (xSh G T b).1 = ci) (hcon : xCon G Y' [.ref b, a1, a2] T R L I (xD (some (.long r)) T' R' L' I')) (hcat : (rest.map fun v => v.category).sum ≤ 8)
    (hr : Y'.2.2.2.2.1 + 1 ≤ Y.2.2.2.2.1 ∧ 8 + (Y'.2.2.1 + 11) + Y'.2.2.2.2.2 ≤ Y.2.2.2.2.2) (h1 : xle Tb T) (h3 : xle T' o.1) (k : xV G Y Tb o pc' xl (.long r :: rest) T' R' L' I') : xV G Y Tb o pc xl (a2 :: a1 :: .ref b :: rest) T R L I :=
  xV_callV (av := [a1, a2]) (rest := rest) hd hc hsh hcon rfl rfl hcat hr h1 h3 (fun v R2 L2 I2 h => by obtain ⟨rfl, rfl, rfl, rfl⟩ := h; exact k)
theorem xV_cV2lP {a1 a2 : Value} {b ci : Nat} {P : Int64 → xR → xL → xI → Prop} (hd : decode Y.2.1 pc = .ok (.invokevirtual idx, 3) ∧ pc + 3 = pc') (hc : xCV Y.1.cls idx Y' 2 ci) (hsh : (xSh G T b).1 = ci) (hcon : xCon G Y' [.ref b, a1, a2] T R L I (T', fun v R2 L2 I2 => ∃ r, v = some (.long r) ∧ P r R2 L2 I2)) (hcat : (rest.map fun v => v.category).sum ≤ 8)
    (hr : Y'.2.2.2.2.1 + 1 ≤ Y.2.2.2.2.1 ∧ 8 + (Y'.2.2.1 + 11) + Y'.2.2.2.2.2 ≤ Y.2.2.2.2.2) (h1 : xle Tb T) (h3 : xle T' o.1) (k : ∀ r R2 L2 I2, P r R2 L2 I2 → xV G Y Tb o pc' xl (.long r :: rest) T' R2 L2 I2) : xV G Y Tb o pc xl (a2 :: a1 :: .ref b :: rest) T R L I :=
  xV_callV (av := [a1, a2]) (rest := rest) hd hc hsh hcon rfl rfl hcat hr h1 h3 (fun v R2 L2 I2 h => by obtain ⟨r, rfl, h⟩ := h; exact k r R2 L2 I2 h)
theorem xV_cV3i {a1 a2 a3 : Value} {b ci : Nat} {r : Int32} (hd : decode Y.2.1 pc = .ok (.invokevirtual idx, 3) ∧ pc + 3 = pc') (hc : xCV Y.1.cls idx Y' 3 ci) (hsh : (xSh G T b).1 = ci) (hcon : xCon G Y' [.ref b, a1, a2, a3] T R L I (xD (some (.int r)) T' R' L' I')) (hcat : (rest.map fun v => v.category).sum ≤ 8)
    (hr : Y'.2.2.2.2.1 + 1 ≤ Y.2.2.2.2.1 ∧ 8 + (Y'.2.2.1 + 11) + Y'.2.2.2.2.2 ≤ Y.2.2.2.2.2) (h1 : xle Tb T) (h3 : xle T' o.1) (k : xV G Y Tb o pc' xl (.int r :: rest) T' R' L' I') : xV G Y Tb o pc xl (a3 :: a2 :: a1 :: .ref b :: rest) T R L I :=
  xV_callV (av := [a1, a2, a3]) (rest := rest) hd hc hsh hcon rfl rfl hcat hr h1 h3 (fun v R2 L2 I2 h => by obtain ⟨rfl, rfl, rfl, rfl⟩ := h; exact k)
theorem xV_cV3iP {a1 a2 a3 : Value} {b ci : Nat} {P : Int32 → xR → xL → xI → Prop} (hd : decode Y.2.1 pc = .ok (.invokevirtual idx, 3) ∧ pc + 3 = pc') (hc : xCV Y.1.cls idx Y' 3 ci) (hsh : (xSh G T b).1 = ci) (hcon : xCon G Y' [.ref b, a1, a2, a3] T R L I (T', fun v R2 L2 I2 => ∃ r, v = some (.int r) ∧ P r R2 L2 I2)) (hcat : (rest.map fun v => v.category).sum ≤ 8)
    (hr : Y'.2.2.2.2.1 + 1 ≤ Y.2.2.2.2.1 ∧ 8 + (Y'.2.2.1 + 11) + Y'.2.2.2.2.2 ≤ Y.2.2.2.2.2) (h1 : xle Tb T) (h3 : xle T' o.1) (k : ∀ r R2 L2 I2, P r R2 L2 I2 → xV G Y Tb o pc' xl (.int r :: rest) T' R2 L2 I2) : xV G Y Tb o pc xl (a3 :: a2 :: a1 :: .ref b :: rest) T R L I :=
  xV_callV (av := [a1, a2, a3]) (rest := rest) hd hc hsh hcon rfl rfl hcat hr h1 h3 (fun v R2 L2 I2 h => by obtain ⟨r, rfl, h⟩ := h; exact k r R2 L2 I2 h)
theorem xV_cV3v {a1 a2 a3 : Value} {b ci : Nat}  (hd : decode Y.2.1 pc = .ok (.invokevirtual idx, 3) ∧ pc + 3 = pc') (hc : xCV Y.1.cls idx Y' 3 ci) (hsh : (xSh G T b).1 = ci) (hcon : xCon G Y' [.ref b, a1, a2, a3] T R L I (xD (none) T' R' L' I')) (hcat : (rest.map fun v => v.category).sum ≤ 8)
    (hr : Y'.2.2.2.2.1 + 1 ≤ Y.2.2.2.2.1 ∧ 8 + (Y'.2.2.1 + 11) + Y'.2.2.2.2.2 ≤ Y.2.2.2.2.2) (h1 : xle Tb T) (h3 : xle T' o.1) (k : xV G Y Tb o pc' xl (rest) T' R' L' I') : xV G Y Tb o pc xl (a3 :: a2 :: a1 :: .ref b :: rest) T R L I :=
  xV_callV (av := [a1, a2, a3]) (rest := rest) hd hc hsh hcon rfl rfl hcat hr h1 h3 (fun v R2 L2 I2 h => by obtain ⟨rfl, rfl, rfl, rfl⟩ := h; exact k)
theorem xV_cV3vP {a1 a2 a3 : Value} {b ci : Nat} {P : xR → xL → xI → Prop} (hd : decode Y.2.1 pc = .ok (.invokevirtual idx, 3) ∧ pc + 3 = pc') (hc : xCV Y.1.cls idx Y' 3 ci) (hsh : (xSh G T b).1 = ci) (hcon : xCon G Y' [.ref b, a1, a2, a3] T R L I (T', fun v R2 L2 I2 => v = none ∧ P R2 L2 I2)) (hcat : (rest.map fun v => v.category).sum ≤ 8)
    (hr : Y'.2.2.2.2.1 + 1 ≤ Y.2.2.2.2.1 ∧ 8 + (Y'.2.2.1 + 11) + Y'.2.2.2.2.2 ≤ Y.2.2.2.2.2) (h1 : xle Tb T) (h3 : xle T' o.1) (k : ∀ R2 L2 I2, P R2 L2 I2 → xV G Y Tb o pc' xl rest T' R2 L2 I2) : xV G Y Tb o pc xl (a3 :: a2 :: a1 :: .ref b :: rest) T R L I :=
  xV_callV (av := [a1, a2, a3]) (rest := rest) hd hc hsh hcon rfl rfl hcat hr h1 h3 (fun v R2 L2 I2 h => by obtain ⟨rfl, h⟩ := h; exact k R2 L2 I2 h)
theorem xV_cV3l {a1 a2 a3 : Value} {b ci : Nat} {r : Int64} (hd : decode Y.2.1 pc = .ok (.invokevirtual idx, 3) ∧ pc + 3 = pc') (hc : xCV Y.1.cls idx Y' 3 ci) (hsh : (xSh G T b).1 = ci) (hcon : xCon G Y' [.ref b, a1, a2, a3] T R L I (xD (some (.long r)) T' R' L' I')) (hcat : (rest.map fun v => v.category).sum ≤ 8)
    (hr : Y'.2.2.2.2.1 + 1 ≤ Y.2.2.2.2.1 ∧ 8 + (Y'.2.2.1 + 11) + Y'.2.2.2.2.2 ≤ Y.2.2.2.2.2) (h1 : xle Tb T) (h3 : xle T' o.1) (k : xV G Y Tb o pc' xl (.long r :: rest) T' R' L' I') : xV G Y Tb o pc xl (a3 :: a2 :: a1 :: .ref b :: rest) T R L I :=
  xV_callV (av := [a1, a2, a3]) (rest := rest) hd hc hsh hcon rfl rfl hcat hr h1 h3 (fun v R2 L2 I2 h => by obtain ⟨rfl, rfl, rfl, rfl⟩ := h; exact k)
theorem xV_cV3lP {a1 a2 a3 : Value} {b ci : Nat} {P : Int64 → xR → xL → xI → Prop} (hd : decode Y.2.1 pc = .ok (.invokevirtual idx, 3) ∧ pc + 3 = pc') (hc : xCV Y.1.cls idx Y' 3 ci) (hsh : (xSh G T b).1 = ci) (hcon : xCon G Y' [.ref b, a1, a2, a3] T R L I (T', fun v R2 L2 I2 => ∃ r, v = some (.long r) ∧ P r R2 L2 I2)) (hcat : (rest.map fun v => v.category).sum ≤ 8)
    (hr : Y'.2.2.2.2.1 + 1 ≤ Y.2.2.2.2.1 ∧ 8 + (Y'.2.2.1 + 11) + Y'.2.2.2.2.2 ≤ Y.2.2.2.2.2) (h1 : xle Tb T) (h3 : xle T' o.1) (k : ∀ r R2 L2 I2, P r R2 L2 I2 → xV G Y Tb o pc' xl (.long r :: rest) T' R2 L2 I2) : xV G Y Tb o pc xl (a3 :: a2 :: a1 :: .ref b :: rest) T R L I :=
  xV_callV (av := [a1, a2, a3]) (rest := rest) hd hc hsh hcon rfl rfl hcat hr h1 h3 (fun v R2 L2 I2 h => by obtain ⟨r, rfl, h⟩ := h; exact k r R2 L2 I2 h)
theorem xV_cI0v  {b : Nat}  (hd : decode Y.2.1 pc = .ok (.invokespecial idx, 3) ∧ pc + 3 = pc') (hc : xCI Y.1.cls idx Y' 0 nest) (hcon : xCon G Y' [.ref b] T R L I (xD (none) T' R' L' I')) (hcat : (rest.map fun v => v.category).sum ≤ 8)
    (hr : Y'.2.2.2.2.1 + 1 ≤ Y.2.2.2.2.1 ∧ 8 + (Y'.2.2.1 + 11) + Y'.2.2.2.2.2 ≤ Y.2.2.2.2.2) (h1 : xle Tb T) (h3 : xle T' o.1) (k : xV G Y Tb o pc' xl (rest) T' R' L' I') : xV G Y Tb o pc xl (.ref b :: rest) T R L I :=
  xV_callI (av := []) (rest := rest) hd hc hcon rfl rfl hcat hr h1 h3 (fun v R2 L2 I2 h => by obtain ⟨rfl, rfl, rfl, rfl⟩ := h; exact k)
theorem xV_cI0vP  {b : Nat} {P : xR → xL → xI → Prop} (hd : decode Y.2.1 pc = .ok (.invokespecial idx, 3) ∧ pc + 3 = pc') (hc : xCI Y.1.cls idx Y' 0 nest) (hcon : xCon G Y' [.ref b] T R L I (T', fun v R2 L2 I2 => v = none ∧ P R2 L2 I2)) (hcat : (rest.map fun v => v.category).sum ≤ 8)
    (hr : Y'.2.2.2.2.1 + 1 ≤ Y.2.2.2.2.1 ∧ 8 + (Y'.2.2.1 + 11) + Y'.2.2.2.2.2 ≤ Y.2.2.2.2.2) (h1 : xle Tb T) (h3 : xle T' o.1) (k : ∀ R2 L2 I2, P R2 L2 I2 → xV G Y Tb o pc' xl rest T' R2 L2 I2) : xV G Y Tb o pc xl (.ref b :: rest) T R L I :=
  xV_callI (av := []) (rest := rest) hd hc hcon rfl rfl hcat hr h1 h3 (fun v R2 L2 I2 h => by obtain ⟨rfl, h⟩ := h; exact k R2 L2 I2 h)
theorem xV_cI1v {a1 : Value} {b : Nat}  (hd : decode Y.2.1 pc = .ok (.invokespecial idx, 3) ∧ pc + 3 = pc') (hc : xCI Y.1.cls idx Y' 1 nest) (hcon : xCon G Y' [.ref b, a1] T R L I (xD (none) T' R' L' I')) (hcat : (rest.map fun v => v.category).sum ≤ 8)
    (hr : Y'.2.2.2.2.1 + 1 ≤ Y.2.2.2.2.1 ∧ 8 + (Y'.2.2.1 + 11) + Y'.2.2.2.2.2 ≤ Y.2.2.2.2.2) (h1 : xle Tb T) (h3 : xle T' o.1) (k : xV G Y Tb o pc' xl (rest) T' R' L' I') : xV G Y Tb o pc xl (a1 :: .ref b :: rest) T R L I :=
  xV_callI (av := [a1]) (rest := rest) hd hc hcon rfl rfl hcat hr h1 h3 (fun v R2 L2 I2 h => by obtain ⟨rfl, rfl, rfl, rfl⟩ := h; exact k)
theorem xV_cI1vP {a1 : Value} {b : Nat} {P : xR → xL → xI → Prop} (hd : decode Y.2.1 pc = .ok (.invokespecial idx, 3) ∧ pc + 3 = pc') (hc : xCI Y.1.cls idx Y' 1 nest) (hcon : xCon G Y' [.ref b, a1] T R L I (T', fun v R2 L2 I2 => v = none ∧ P R2 L2 I2)) (hcat : (rest.map fun v => v.category).sum ≤ 8)
    (hr : Y'.2.2.2.2.1 + 1 ≤ Y.2.2.2.2.1 ∧ 8 + (Y'.2.2.1 + 11) + Y'.2.2.2.2.2 ≤ Y.2.2.2.2.2) (h1 : xle Tb T) (h3 : xle T' o.1) (k : ∀ R2 L2 I2, P R2 L2 I2 → xV G Y Tb o pc' xl rest T' R2 L2 I2) : xV G Y Tb o pc xl (a1 :: .ref b :: rest) T R L I :=
  xV_callI (av := [a1]) (rest := rest) hd hc hcon rfl rfl hcat hr h1 h3 (fun v R2 L2 I2 h => by obtain ⟨rfl, h⟩ := h; exact k R2 L2 I2 h)
theorem xV_cI2v {a1 a2 : Value} {b : Nat}  (hd : decode Y.2.1 pc = .ok (.invokespecial idx, 3) ∧ pc + 3 = pc') (hc : xCI Y.1.cls idx Y' 2 nest) (hcon : xCon G Y' [.ref b, a1, a2] T R L I (xD (none) T' R' L' I')) (hcat : (rest.map fun v => v.category).sum ≤ 8)
    (hr : Y'.2.2.2.2.1 + 1 ≤ Y.2.2.2.2.1 ∧ 8 + (Y'.2.2.1 + 11) + Y'.2.2.2.2.2 ≤ Y.2.2.2.2.2) (h1 : xle Tb T) (h3 : xle T' o.1) (k : xV G Y Tb o pc' xl (rest) T' R' L' I') : xV G Y Tb o pc xl (a2 :: a1 :: .ref b :: rest) T R L I :=
  xV_callI (av := [a1, a2]) (rest := rest) hd hc hcon rfl rfl hcat hr h1 h3 (fun v R2 L2 I2 h => by obtain ⟨rfl, rfl, rfl, rfl⟩ := h; exact k)
theorem xV_cI2vP {a1 a2 : Value} {b : Nat} {P : xR → xL → xI → Prop} (hd : decode Y.2.1 pc = .ok (.invokespecial idx, 3) ∧ pc + 3 = pc') (hc : xCI Y.1.cls idx Y' 2 nest) (hcon : xCon G Y' [.ref b, a1, a2] T R L I (T', fun v R2 L2 I2 => v = none ∧ P R2 L2 I2)) (hcat : (rest.map fun v => v.category).sum ≤ 8)
    (hr : Y'.2.2.2.2.1 + 1 ≤ Y.2.2.2.2.1 ∧ 8 + (Y'.2.2.1 + 11) + Y'.2.2.2.2.2 ≤ Y.2.2.2.2.2) (h1 : xle Tb T) (h3 : xle T' o.1) (k : ∀ R2 L2 I2, P R2 L2 I2 → xV G Y Tb o pc' xl rest T' R2 L2 I2) : xV G Y Tb o pc xl (a2 :: a1 :: .ref b :: rest) T R L I :=
  xV_callI (av := [a1, a2]) (rest := rest) hd hc hcon rfl rfl hcat hr h1 h3 (fun v R2 L2 I2 h => by obtain ⟨rfl, h⟩ := h; exact k R2 L2 I2 h)
theorem xV_cI3v {a1 a2 a3 : Value} {b : Nat}  (hd : decode Y.2.1 pc = .ok (.invokespecial idx, 3) ∧ pc + 3 = pc') (hc : xCI Y.1.cls idx Y' 3 nest) (hcon : xCon G Y' [.ref b, a1, a2, a3] T R L I (xD (none) T' R' L' I')) (hcat : (rest.map fun v => v.category).sum ≤ 8)
    (hr : Y'.2.2.2.2.1 + 1 ≤ Y.2.2.2.2.1 ∧ 8 + (Y'.2.2.1 + 11) + Y'.2.2.2.2.2 ≤ Y.2.2.2.2.2) (h1 : xle Tb T) (h3 : xle T' o.1) (k : xV G Y Tb o pc' xl (rest) T' R' L' I') : xV G Y Tb o pc xl (a3 :: a2 :: a1 :: .ref b :: rest) T R L I :=
  xV_callI (av := [a1, a2, a3]) (rest := rest) hd hc hcon rfl rfl hcat hr h1 h3 (fun v R2 L2 I2 h => by obtain ⟨rfl, rfl, rfl, rfl⟩ := h; exact k)
theorem xV_cI3vP {a1 a2 a3 : Value} {b : Nat} {P : xR → xL → xI → Prop} (hd : decode Y.2.1 pc = .ok (.invokespecial idx, 3) ∧ pc + 3 = pc') (hc : xCI Y.1.cls idx Y' 3 nest) (hcon : xCon G Y' [.ref b, a1, a2, a3] T R L I (T', fun v R2 L2 I2 => v = none ∧ P R2 L2 I2)) (hcat : (rest.map fun v => v.category).sum ≤ 8)
    (hr : Y'.2.2.2.2.1 + 1 ≤ Y.2.2.2.2.1 ∧ 8 + (Y'.2.2.1 + 11) + Y'.2.2.2.2.2 ≤ Y.2.2.2.2.2) (h1 : xle Tb T) (h3 : xle T' o.1) (k : ∀ R2 L2 I2, P R2 L2 I2 → xV G Y Tb o pc' xl rest T' R2 L2 I2) : xV G Y Tb o pc xl (a3 :: a2 :: a1 :: .ref b :: rest) T R L I :=
  xV_callI (av := [a1, a2, a3]) (rest := rest) hd hc hcon rfl rfl hcat hr h1 h3 (fun v R2 L2 I2 h => by obtain ⟨rfl, h⟩ := h; exact k R2 L2 I2 h)
end XX
end
section
/-! A MINE: its object and its five rows at h .. h + 5, told as one value -/
abbrev xS : Type := (Nat → Int32) × (Nat → Int32) × (Nat → Int32) × (Nat → Int32) × (Nat → Int32) × (Nat → Int32)
def mS (I : xI) (h : Nat) : xS := (I h, I (h + 1), I (h + 2), I (h + 3), I (h + 4), I (h + 5))
def pm (I : xI) (h : Nat) (S : xS) : xI := fun a => if a = h then S.1 else if a = h + 1 then S.2.1 else if a = h + 2 then S.2.2.1 else if a = h + 3 then S.2.2.2.1 else if a = h + 4 then S.2.2.2.2.1 else if a = h + 5 then S.2.2.2.2.2 else I a
def MinS (G : xG) (T : xT) (R : xR) (h : Nat) : Prop := (xSh G T h).1 = 0 ∧ R h 0 = some (h + 1) ∧ R h 1 = some (h + 2) ∧ R h 2 = some (h + 3) ∧ R h 3 = some (h + 4) ∧ R h 4 = some (h + 5) ∧
  xSh G T (h + 1) = (4, 12) ∧ xSh G T (h + 2) = (4, 12) ∧ xSh G T (h + 3) = (4, 12) ∧ xSh G T (h + 4) = (4, 12) ∧ xSh G T (h + 5) = (4, 4)
section XM
variable {G : xG} {Y : xY} {Tb : xT} {o : xO} {pc pc' idx : Nat} {xl : List (Option Value)} {st : List Value} {T : xT} {R : xR} {L : xL} {I : xI} {h : Nat} {S S' : xS} {f w1 w2 w3 w4 w5 : Nat → Int32}
theorem pm_0 : pm I h S h = S.1 := by simp [pm]
theorem pm_1 : pm I h S (h + 1) = S.2.1 := by simp [pm]
theorem pm_2 : pm I h S (h + 2) = S.2.2.1 := by simp [pm]
theorem pm_3 : pm I h S (h + 3) = S.2.2.2.1 := by simp [pm]
theorem pm_4 : pm I h S (h + 4) = S.2.2.2.2.1 := by simp [pm]
theorem pm_5 : pm I h S (h + 5) = S.2.2.2.2.2 := by simp [pm]
theorem pm_o {a : Nat} (ha : a < h ∨ h + 6 ≤ a) : pm I h S a = I a := by
  unfold pm
  rw [if_neg (by omega), if_neg (by omega), if_neg (by omega), if_neg (by omega), if_neg (by omega), if_neg (by omega)]
theorem mS_pm : mS (pm I h S) h = S := by simp only [mS, pm_0, pm_1, pm_2, pm_3, pm_4, pm_5]
theorem mS_pmo {h2 : Nat} (hd : h2 + 6 ≤ h ∨ h + 6 ≤ h2) : mS (pm I h S) h2 = mS I h2 := by
  unfold mS
  rw [pm_o (by omega), pm_o (by omega), pm_o (by omega), pm_o (by omega), pm_o (by omega), pm_o (by omega)]
theorem pm_cases (P : Nat → Prop) {a : Nat} (h0 : P h) (h1 : P (h + 1)) (h2 : P (h + 2)) (h3 : P (h + 3)) (h4 : P (h + 4)) (h5 : P (h + 5)) (ho : a < h ∨ h + 6 ≤ a → P a) : P a := by
  by_cases e0 : a = h
  · rw [e0]; exact h0
  by_cases e1 : a = h + 1
  · rw [e1]; exact h1
  by_cases e2 : a = h + 2
  · rw [e2]; exact h2
  by_cases e3 : a = h + 3
  · rw [e3]; exact h3
  by_cases e4 : a = h + 4
  · rw [e4]; exact h4
  by_cases e5 : a = h + 5
  · rw [e5]; exact h5
  exact ho (by omega)
theorem pm_self : pm I h (mS I h) = I := by
  funext a
  refine pm_cases (h := h) (fun a => pm I h (mS I h) a = I a) ?_ ?_ ?_ ?_ ?_ ?_ (fun ha => pm_o ha)
  all_goals simp only [pm_0, pm_1, pm_2, pm_3, pm_4, pm_5, mS]
theorem pm_pm : pm (pm I h S) h S' = pm I h S' := by
  funext a
  refine pm_cases (h := h) (fun a => pm (pm I h S) h S' a = pm I h S' a) ?_ ?_ ?_ ?_ ?_ ?_ (fun ha => by rw [pm_o ha, pm_o ha, pm_o ha])
  all_goals simp only [pm_0, pm_1, pm_2, pm_3, pm_4, pm_5]
theorem pm_comm {h2 : Nat} (hd : h2 + 6 ≤ h ∨ h + 6 ≤ h2) : pm (pm I h S) h2 S' = pm (pm I h2 S') h S := by
  funext a
  refine pm_cases (h := h) (fun a => pm (pm I h S) h2 S' a = pm (pm I h2 S') h S a) ?_ ?_ ?_ ?_ ?_ ?_ (fun ha => ?_)
  · rw [pm_o (by omega), pm_0, pm_0]
  · rw [pm_o (by omega), pm_1, pm_1]
  · rw [pm_o (by omega), pm_2, pm_2]
  · rw [pm_o (by omega), pm_3, pm_3]
  · rw [pm_o (by omega), pm_4, pm_4]
  · rw [pm_o (by omega), pm_5, pm_5]
  · rw [pm_o (h := h) ha]
    refine pm_cases (h := h2) (fun b => (b < h ∨ h + 6 ≤ b) → pm (pm I h S) h2 S' b = pm I h2 S' b) ?_ ?_ ?_ ?_ ?_ ?_ (fun hb hb2 => ?_) ha
    · intro _; rw [pm_0, pm_0]
    · intro _; rw [pm_1, pm_1]
    · intro _; rw [pm_2, pm_2]
    · intro _; rw [pm_3, pm_3]
    · intro _; rw [pm_4, pm_4]
    · intro _; rw [pm_5, pm_5]
    · rw [pm_o hb, pm_o hb, pm_o hb2]
theorem va_up_s {α : Type} {f : Nat → α} {k : Nat} {v : α} : va_up f k v k = v := by simp [va_up]
theorem va_up_n {α : Type} {f : Nat → α} {k j : Nat} {v : α} (hj : j ≠ k) : va_up f k v j = f j := by simp [va_up, hj]
theorem pm_va {a : Nat} {x : Nat → Int32} (ha : a < h ∨ h + 6 ≤ a) : va_up (pm I h S) a x = pm (va_up I a x) h S := by
  funext b
  refine pm_cases (h := h) (fun b => va_up (pm I h S) a x b = pm (va_up I a x) h S b) ?_ ?_ ?_ ?_ ?_ ?_ (fun hb => ?_)
  · rw [va_up_n (by omega), pm_0, pm_0]
  · rw [va_up_n (by omega), pm_1, pm_1]
  · rw [va_up_n (by omega), pm_2, pm_2]
  · rw [va_up_n (by omega), pm_3, pm_3]
  · rw [va_up_n (by omega), pm_4, pm_4]
  · rw [va_up_n (by omega), pm_5, pm_5]
  · rw [pm_o hb]
    by_cases e : b = a
    · subst e; rw [va_up_s, va_up_s]
    · rw [va_up_n e, va_up_n e, pm_o hb]
theorem pm_va0 {x : Nat → Int32} : va_up (pm I h (f, w1, w2, w3, w4, w5)) h x = pm I h (x, w1, w2, w3, w4, w5) := by
  funext b
  refine pm_cases (h := h) (fun b => va_up (pm I h (f, w1, w2, w3, w4, w5)) h x b = pm I h (x, w1, w2, w3, w4, w5) b) ?_ ?_ ?_ ?_ ?_ ?_ (fun hb => by rw [va_up_n (by omega), pm_o hb, pm_o hb])
  · rw [va_up_s, pm_0]
  · rw [va_up_n (by omega), pm_1, pm_1]
  · rw [va_up_n (by omega), pm_2, pm_2]
  · rw [va_up_n (by omega), pm_3, pm_3]
  · rw [va_up_n (by omega), pm_4, pm_4]
  · rw [va_up_n (by omega), pm_5, pm_5]
theorem pm_st0 {k : Nat} {x : Int32} : xst (pm I h (f, w1, w2, w3, w4, w5)) h k x = pm I h (upd f k x, w1, w2, w3, w4, w5) := by
  unfold xst
  rw [pm_0, pm_va0]
theorem pm_va1 {x : Nat → Int32} : va_up (pm I h (f, w1, w2, w3, w4, w5)) (h + 1) x = pm I h (f, x, w2, w3, w4, w5) := by
  funext b
  refine pm_cases (h := h) (fun b => va_up (pm I h (f, w1, w2, w3, w4, w5)) (h + 1) x b = pm I h (f, x, w2, w3, w4, w5) b) ?_ ?_ ?_ ?_ ?_ ?_ (fun hb => by rw [va_up_n (by omega), pm_o hb, pm_o hb])
  · rw [va_up_n (by omega), pm_0, pm_0]
  · rw [va_up_s, pm_1]
  · rw [va_up_n (by omega), pm_2, pm_2]
  · rw [va_up_n (by omega), pm_3, pm_3]
  · rw [va_up_n (by omega), pm_4, pm_4]
  · rw [va_up_n (by omega), pm_5, pm_5]
theorem pm_st1 {k : Nat} {x : Int32} : xst (pm I h (f, w1, w2, w3, w4, w5)) (h + 1) k x = pm I h (f, upd w1 k x, w2, w3, w4, w5) := by
  unfold xst
  rw [pm_1, pm_va1]
theorem pm_va2 {x : Nat → Int32} : va_up (pm I h (f, w1, w2, w3, w4, w5)) (h + 2) x = pm I h (f, w1, x, w3, w4, w5) := by
  funext b
  refine pm_cases (h := h) (fun b => va_up (pm I h (f, w1, w2, w3, w4, w5)) (h + 2) x b = pm I h (f, w1, x, w3, w4, w5) b) ?_ ?_ ?_ ?_ ?_ ?_ (fun hb => by rw [va_up_n (by omega), pm_o hb, pm_o hb])
  · rw [va_up_n (by omega), pm_0, pm_0]
  · rw [va_up_n (by omega), pm_1, pm_1]
  · rw [va_up_s, pm_2]
  · rw [va_up_n (by omega), pm_3, pm_3]
  · rw [va_up_n (by omega), pm_4, pm_4]
  · rw [va_up_n (by omega), pm_5, pm_5]
theorem pm_st2 {k : Nat} {x : Int32} : xst (pm I h (f, w1, w2, w3, w4, w5)) (h + 2) k x = pm I h (f, w1, upd w2 k x, w3, w4, w5) := by
  unfold xst
  rw [pm_2, pm_va2]
theorem pm_va3 {x : Nat → Int32} : va_up (pm I h (f, w1, w2, w3, w4, w5)) (h + 3) x = pm I h (f, w1, w2, x, w4, w5) := by
  funext b
  refine pm_cases (h := h) (fun b => va_up (pm I h (f, w1, w2, w3, w4, w5)) (h + 3) x b = pm I h (f, w1, w2, x, w4, w5) b) ?_ ?_ ?_ ?_ ?_ ?_ (fun hb => by rw [va_up_n (by omega), pm_o hb, pm_o hb])
  · rw [va_up_n (by omega), pm_0, pm_0]
  · rw [va_up_n (by omega), pm_1, pm_1]
  · rw [va_up_n (by omega), pm_2, pm_2]
  · rw [va_up_s, pm_3]
  · rw [va_up_n (by omega), pm_4, pm_4]
  · rw [va_up_n (by omega), pm_5, pm_5]
theorem pm_st3 {k : Nat} {x : Int32} : xst (pm I h (f, w1, w2, w3, w4, w5)) (h + 3) k x = pm I h (f, w1, w2, upd w3 k x, w4, w5) := by
  unfold xst
  rw [pm_3, pm_va3]
theorem pm_va4 {x : Nat → Int32} : va_up (pm I h (f, w1, w2, w3, w4, w5)) (h + 4) x = pm I h (f, w1, w2, w3, x, w5) := by
  funext b
  refine pm_cases (h := h) (fun b => va_up (pm I h (f, w1, w2, w3, w4, w5)) (h + 4) x b = pm I h (f, w1, w2, w3, x, w5) b) ?_ ?_ ?_ ?_ ?_ ?_ (fun hb => by rw [va_up_n (by omega), pm_o hb, pm_o hb])
  · rw [va_up_n (by omega), pm_0, pm_0]
  · rw [va_up_n (by omega), pm_1, pm_1]
  · rw [va_up_n (by omega), pm_2, pm_2]
  · rw [va_up_n (by omega), pm_3, pm_3]
  · rw [va_up_s, pm_4]
  · rw [va_up_n (by omega), pm_5, pm_5]
theorem pm_st4 {k : Nat} {x : Int32} : xst (pm I h (f, w1, w2, w3, w4, w5)) (h + 4) k x = pm I h (f, w1, w2, w3, upd w4 k x, w5) := by
  unfold xst
  rw [pm_4, pm_va4]
theorem pm_va5 {x : Nat → Int32} : va_up (pm I h (f, w1, w2, w3, w4, w5)) (h + 5) x = pm I h (f, w1, w2, w3, w4, x) := by
  funext b
  refine pm_cases (h := h) (fun b => va_up (pm I h (f, w1, w2, w3, w4, w5)) (h + 5) x b = pm I h (f, w1, w2, w3, w4, x) b) ?_ ?_ ?_ ?_ ?_ ?_ (fun hb => by rw [va_up_n (by omega), pm_o hb, pm_o hb])
  · rw [va_up_n (by omega), pm_0, pm_0]
  · rw [va_up_n (by omega), pm_1, pm_1]
  · rw [va_up_n (by omega), pm_2, pm_2]
  · rw [va_up_n (by omega), pm_3, pm_3]
  · rw [va_up_n (by omega), pm_4, pm_4]
  · rw [va_up_s, pm_5]
theorem pm_st5 {k : Nat} {x : Int32} : xst (pm I h (f, w1, w2, w3, w4, w5)) (h + 5) k x = pm I h (f, w1, w2, w3, w4, upd w5 k x) := by
  unfold xst
  rw [pm_5, pm_va5]
theorem xV_getF {k0 : Nat} (hd : decode Y.2.1 pc = .ok (.getfield idx, 3) ∧ pc + 3 = pc') (hf : xFL Y.1.cls idx 0 k0 0) (hs : (xSh G T h).1 = 0) (k : xV G Y Tb o pc' xl (.int (f k0) :: st) T R L (pm I h (f, w1, w2, w3, w4, w5))) : xV G Y Tb o pc xl (.ref h :: st) T R L (pm I h (f, w1, w2, w3, w4, w5)) :=
  xV_getI hd hf hs (by rw [pm_0]; exact k)
theorem xV_putF {k0 : Nat} {x : Int32} (hd : decode Y.2.1 pc = .ok (.putfield idx, 3) ∧ pc + 3 = pc') (hf : xFP Y.1.cls idx 0 k0 0 false .int) (hs : (xSh G T h).1 = 0) (k : xV G Y Tb o pc' xl st T R L (pm I h (upd f k0 x, w1, w2, w3, w4, w5))) : xV G Y Tb o pc xl (.int x :: .ref h :: st) T R L (pm I h (f, w1, w2, w3, w4, w5)) :=
  xV_putI hd hf hs (by rw [pm_st0]; exact k)
theorem xRow.p1 {n : Nat} (hs : xSh G T (h + 1) = (4, n)) : xRow G T (pm I h (f, w1, w2, w3, w4, w5)) (h + 1) n w1 := Or.inl ⟨hs, (pm_1 (I := I) (h := h) (S := (f, w1, w2, w3, w4, w5))).symm⟩
theorem xV_iast1 {n k : Nat} {x : Int32} (hd : decode Y.2.1 pc = .ok (.iastore, 1) ∧ pc + 1 = pc') (hs : xSh G T (h + 1) = (4, n)) (hk : k < n) (hn : n < 2 ^ 31) (kk : xV G Y Tb o pc' xl st T R L (pm I h (f, upd w1 k x, w2, w3, w4, w5))) : xV G Y Tb o pc xl (.int x :: .int (nI k) :: .ref (h + 1) :: st) T R L (pm I h (f, w1, w2, w3, w4, w5)) :=
  xV_iastN hd hs hk hn (by rw [pm_st1]; exact kk)
theorem xRow.p2 {n : Nat} (hs : xSh G T (h + 2) = (4, n)) : xRow G T (pm I h (f, w1, w2, w3, w4, w5)) (h + 2) n w2 := Or.inl ⟨hs, (pm_2 (I := I) (h := h) (S := (f, w1, w2, w3, w4, w5))).symm⟩
theorem xV_iast2 {n k : Nat} {x : Int32} (hd : decode Y.2.1 pc = .ok (.iastore, 1) ∧ pc + 1 = pc') (hs : xSh G T (h + 2) = (4, n)) (hk : k < n) (hn : n < 2 ^ 31) (kk : xV G Y Tb o pc' xl st T R L (pm I h (f, w1, upd w2 k x, w3, w4, w5))) : xV G Y Tb o pc xl (.int x :: .int (nI k) :: .ref (h + 2) :: st) T R L (pm I h (f, w1, w2, w3, w4, w5)) :=
  xV_iastN hd hs hk hn (by rw [pm_st2]; exact kk)
theorem xRow.p3 {n : Nat} (hs : xSh G T (h + 3) = (4, n)) : xRow G T (pm I h (f, w1, w2, w3, w4, w5)) (h + 3) n w3 := Or.inl ⟨hs, (pm_3 (I := I) (h := h) (S := (f, w1, w2, w3, w4, w5))).symm⟩
theorem xV_iast3 {n k : Nat} {x : Int32} (hd : decode Y.2.1 pc = .ok (.iastore, 1) ∧ pc + 1 = pc') (hs : xSh G T (h + 3) = (4, n)) (hk : k < n) (hn : n < 2 ^ 31) (kk : xV G Y Tb o pc' xl st T R L (pm I h (f, w1, w2, upd w3 k x, w4, w5))) : xV G Y Tb o pc xl (.int x :: .int (nI k) :: .ref (h + 3) :: st) T R L (pm I h (f, w1, w2, w3, w4, w5)) :=
  xV_iastN hd hs hk hn (by rw [pm_st3]; exact kk)
theorem xRow.p4 {n : Nat} (hs : xSh G T (h + 4) = (4, n)) : xRow G T (pm I h (f, w1, w2, w3, w4, w5)) (h + 4) n w4 := Or.inl ⟨hs, (pm_4 (I := I) (h := h) (S := (f, w1, w2, w3, w4, w5))).symm⟩
theorem xV_iast4 {n k : Nat} {x : Int32} (hd : decode Y.2.1 pc = .ok (.iastore, 1) ∧ pc + 1 = pc') (hs : xSh G T (h + 4) = (4, n)) (hk : k < n) (hn : n < 2 ^ 31) (kk : xV G Y Tb o pc' xl st T R L (pm I h (f, w1, w2, w3, upd w4 k x, w5))) : xV G Y Tb o pc xl (.int x :: .int (nI k) :: .ref (h + 4) :: st) T R L (pm I h (f, w1, w2, w3, w4, w5)) :=
  xV_iastN hd hs hk hn (by rw [pm_st4]; exact kk)
theorem xRow.p5 {n : Nat} (hs : xSh G T (h + 5) = (4, n)) : xRow G T (pm I h (f, w1, w2, w3, w4, w5)) (h + 5) n w5 := Or.inl ⟨hs, (pm_5 (I := I) (h := h) (S := (f, w1, w2, w3, w4, w5))).symm⟩
theorem xV_iast5 {n k : Nat} {x : Int32} (hd : decode Y.2.1 pc = .ok (.iastore, 1) ∧ pc + 1 = pc') (hs : xSh G T (h + 5) = (4, n)) (hk : k < n) (hn : n < 2 ^ 31) (kk : xV G Y Tb o pc' xl st T R L (pm I h (f, w1, w2, w3, w4, upd w5 k x))) : xV G Y Tb o pc xl (.int x :: .int (nI k) :: .ref (h + 5) :: st) T R L (pm I h (f, w1, w2, w3, w4, w5)) :=
  xV_iastN hd hs hk hn (by rw [pm_st5]; exact kk)
end XM
end
section
/-! SMALL STATIC METHODS -/
section XLEAF
variable {G : xG} {T : xT} {R : xR} {L : xL} {I : xI}
def hs (b i : Int32) : Bool := decide (¬ (b >>> (i &&& 31)) &&& nI 1 = 0)
def bCell (c : Int32) : Bool := decide (0 ≤ c) && decide (c < nI 12)
def bIn (i : Int32) (n : Nat) : Bool := decide (0 ≤ i) && decide (i < nI n)
def xat (n : Nat) (f : Nat → Int32) (i : Int32) : Int32 := if bIn i n = true then f i.toNatClampNeg else nI 0
def xput (I : xI) (a n : Nat) (i v : Int32) : xI := if bIn i n = true then xst I a i.toNatClampNeg v else I
theorem bIn_vp {i : Int32} {n : Nat} (hn : n < 2 ^ 31) (h : 0 ≤ i) (h2 : i < nI n) : vp_in i n := by
  refine vp_in_iff.mpr ⟨by simpa using Int32.le_iff_toInt_le.mp h, ?_⟩
  have := Int32.lt_iff_toInt_lt.mp h2
  rwa [nI_toInt hn] at this
theorem bIn_N {k n : Nat} (hk : k < n) (hn : n < 2 ^ 31) : bIn (nI k) n = true := by
  simp only [bIn, Bool.and_eq_true, decide_eq_true_eq]
  exact ⟨nI_pos' (by omega), (nI_ltI (by omega) hn).mpr hk⟩
theorem xat_N {k n : Nat} {f : Nat → Int32} (hk : k < n) (hn : n < 2 ^ 31) : xat n f (nI k) = f k := by
  rw [xat, if_pos (bIn_N hk hn), nI_clamp (Nat.lt_trans hk hn)]
theorem xput_N {I : xI} {a k n : Nat} {v : Int32} (hk : k < n) (hn : n < 2 ^ 31) : xput I a n (nI k) v = xst I a k v := by
  rw [xput, if_pos (bIn_N hk hn), nI_clamp (Nat.lt_trans hk hn)]
theorem i_nlt {x y : Int32} (h : x < y) : ¬ y ≤ x := Int32.not_le.mpr h
theorem i_nle {x y : Int32} (h : ¬ x < y) : y ≤ x := Int32.not_lt.mp h
set_option maxHeartbeats 4000000 in
set_option maxRecDepth 100000 in
theorem C_X2_has {b i : Int32} : xCon G Y_X2_has [.int b, .int i] T R L I (xD (some (.int (xb (hs b i)))) T R L I) := by
  refine xCon.mk (xl := [some (.int b), some (.int i)]) (by decide +kernel) (xle_r _) rfl (Nat.le_of_ble_eq_true rfl) rfl ?_
  refine xV_iload_n e_X2_has_0 rfl ?_
  refine xV_iload_n e_X2_has_1 rfl ?_
  refine xV_ishr e_X2_has_2 ?_
  refine xV_iconst (v := (nI 1)) e_X2_has_3 (by decide) ?_
  refine xV_iand e_X2_has_4 ?_
  refine xV_if_eq e_X2_has_5 (fun h5 => ?_) (fun h5 => ?_)
  · refine xV_iconst (v := (nI 0)) e_X2_has_12 (by decide) ?_
    exact xV_zreturn e_X2_has_13 rfl rfl rfl (by first | exact ⟨xret_t (decide_eq_true h5), rfl, rfl, rfl⟩ | exact ⟨xret_f (decide_eq_false (fun h => h h5)), rfl, rfl, rfl⟩)
  · refine xV_iconst (v := (nI 1)) e_X2_has_8 (by decide) ?_
    refine xV_goto e_X2_has_9 ?_
    exact xV_zreturn e_X2_has_13 rfl rfl rfl (by first | exact ⟨xret_t (decide_eq_true h5), rfl, rfl, rfl⟩ | exact ⟨xret_f (decide_eq_false (fun h => h h5)), rfl, rfl, rfl⟩)
set_option maxHeartbeats 4000000 in
set_option maxRecDepth 100000 in
theorem C_X3_has {b i : Int32} : xCon G Y_X3_has [.int b, .int i] T R L I (xD (some (.int (xb (decide ((b >>> (i &&& 31)) &&& nI 1 = nI 1))))) T R L I) := by
  refine xCon.mk (xl := [some (.int b), some (.int i)]) (by decide +kernel) (xle_r _) rfl (Nat.le_of_ble_eq_true rfl) rfl ?_
  refine xV_iload_n e_X3_has_0 rfl ?_
  refine xV_iload_n e_X3_has_1 rfl ?_
  refine xV_ishr e_X3_has_2 ?_
  refine xV_iconst (v := (nI 1)) e_X3_has_3 (by decide) ?_
  refine xV_iand e_X3_has_4 ?_
  refine xV_iconst (v := (nI 1)) e_X3_has_5 (by decide) ?_
  refine xV_icmp_ne e_X3_has_6 (fun h6 => ?_) (fun h6 => ?_)
  · refine xV_iconst (v := (nI 0)) e_X3_has_13 (by decide) ?_
    exact xV_zreturn e_X3_has_14 rfl rfl rfl (by first | exact ⟨xret_t (decide_eq_true h6), rfl, rfl, rfl⟩ | exact ⟨xret_f (decide_eq_false h6), rfl, rfl, rfl⟩)
  · refine xV_iconst (v := (nI 1)) e_X3_has_9 (by decide) ?_
    refine xV_goto e_X3_has_10 ?_
    exact xV_zreturn e_X3_has_14 rfl rfl rfl (by first | exact ⟨xret_t (decide_eq_true h6), rfl, rfl, rfl⟩ | exact ⟨xret_f (decide_eq_false h6), rfl, rfl, rfl⟩)
set_option maxHeartbeats 4000000 in
set_option maxRecDepth 100000 in
theorem C_X2_isCell {c : Int32} : xCon G Y_X2_isCell [.int c] T R L I (xD (some (.int (xb (bCell c)))) T R L I) := by
  refine xCon.mk (xl := [some (.int c)]) (by decide +kernel) (xle_r _) rfl (Nat.le_of_ble_eq_true rfl) rfl ?_
  refine xV_iload_n e_X2_isCell_0 rfl ?_
  refine xV_if_lt e_X2_isCell_1 (fun h1 => ?_) (fun h1 => ?_)
  · refine xV_iconst (v := (nI 0)) e_X2_isCell_14 (by decide) ?_
    exact xV_zreturn e_X2_isCell_15 rfl rfl rfl (by first | exact ⟨xret_t (by simp only [bCell, Bool.and_eq_true, decide_eq_true_eq]; exact ⟨i_nle h1, Int32.not_le.mp h7⟩), rfl, rfl, rfl⟩ | exact ⟨xret_f (by simp only [bCell, Bool.and_eq_false_iff, decide_eq_false_iff_not]; first | exact Or.inl (i_nlt h1) | exact Or.inr (Int32.not_lt.mpr h7)), rfl, rfl, rfl⟩)
  · refine xV_iload_n e_X2_isCell_4 rfl ?_
    refine xV_bipush (v := (nI 12)) e_X2_isCell_5 (by decide) ?_
    refine xV_icmp_ge e_X2_isCell_7 (fun h7 => ?_) (fun h7 => ?_)
    · refine xV_iconst (v := (nI 0)) e_X2_isCell_14 (by decide) ?_
      exact xV_zreturn e_X2_isCell_15 rfl rfl rfl (by first | exact ⟨xret_t (by simp only [bCell, Bool.and_eq_true, decide_eq_true_eq]; exact ⟨i_nle h1, Int32.not_le.mp h7⟩), rfl, rfl, rfl⟩ | exact ⟨xret_f (by simp only [bCell, Bool.and_eq_false_iff, decide_eq_false_iff_not]; first | exact Or.inl (i_nlt h1) | exact Or.inr (Int32.not_lt.mpr h7)), rfl, rfl, rfl⟩)
    · refine xV_iconst (v := (nI 1)) e_X2_isCell_10 (by decide) ?_
      refine xV_goto e_X2_isCell_11 ?_
      exact xV_zreturn e_X2_isCell_15 rfl rfl rfl (by first | exact ⟨xret_t (by simp only [bCell, Bool.and_eq_true, decide_eq_true_eq]; exact ⟨i_nle h1, Int32.not_le.mp h7⟩), rfl, rfl, rfl⟩ | exact ⟨xret_f (by simp only [bCell, Bool.and_eq_false_iff, decide_eq_false_iff_not]; first | exact Or.inl (i_nlt h1) | exact Or.inr (Int32.not_lt.mpr h7)), rfl, rfl, rfl⟩)
set_option maxHeartbeats 4000000 in
set_option maxRecDepth 100000 in
theorem C_J9_max_7cf53 {a b : Int32} : xCon G Y_J9_max_7cf53 [.int a, .int b] T R L I (xD (some (.int (if a < b then b else a))) T R L I) := by
  refine xCon.mk (xl := [some (.int a), some (.int b)]) (by decide +kernel) (xle_r _) rfl (Nat.le_of_ble_eq_true rfl) rfl ?_
  refine xV_iload_n e_J9_max_7cf53_0 rfl ?_
  refine xV_iload_n e_J9_max_7cf53_1 rfl ?_
  refine xV_icmp_lt e_J9_max_7cf53_2 (fun h2 => ?_) (fun h2 => ?_)
  · refine xV_iload_n e_J9_max_7cf53_9 rfl ?_
    exact xV_ireturn e_J9_max_7cf53_10 rfl rfl (by first | exact ⟨by rw [if_pos h2], rfl, rfl, rfl⟩ | exact ⟨by rw [if_neg h2], rfl, rfl, rfl⟩ | exact ⟨by rw [if_neg h2], rfl, rfl, rfl⟩)
  · refine xV_iload_n e_J9_max_7cf53_5 rfl ?_
    refine xV_goto e_J9_max_7cf53_6 ?_
    exact xV_ireturn e_J9_max_7cf53_10 rfl rfl (by first | exact ⟨by rw [if_pos h2], rfl, rfl, rfl⟩ | exact ⟨by rw [if_neg h2], rfl, rfl, rfl⟩ | exact ⟨by rw [if_neg h2], rfl, rfl, rfl⟩)
set_option maxHeartbeats 4000000 in
set_option maxRecDepth 100000 in
theorem C_J9_min_7cf53 {a b : Int32} : xCon G Y_J9_min_7cf53 [.int a, .int b] T R L I (xD (some (.int (if b < a then b else a))) T R L I) := by
  refine xCon.mk (xl := [some (.int a), some (.int b)]) (by decide +kernel) (xle_r _) rfl (Nat.le_of_ble_eq_true rfl) rfl ?_
  refine xV_iload_n e_J9_min_7cf53_0 rfl ?_
  refine xV_iload_n e_J9_min_7cf53_1 rfl ?_
  refine xV_icmp_gt e_J9_min_7cf53_2 (fun h2 => ?_) (fun h2 => ?_)
  · refine xV_iload_n e_J9_min_7cf53_9 rfl ?_
    exact xV_ireturn e_J9_min_7cf53_10 rfl rfl (by first | exact ⟨by rw [if_pos h2], rfl, rfl, rfl⟩ | exact ⟨by rw [if_neg h2], rfl, rfl, rfl⟩ | exact ⟨by rw [if_neg h2], rfl, rfl, rfl⟩)
  · refine xV_iload_n e_J9_min_7cf53_5 rfl ?_
    refine xV_goto e_J9_min_7cf53_6 ?_
    exact xV_ireturn e_J9_min_7cf53_10 rfl rfl (by first | exact ⟨by rw [if_pos h2], rfl, rfl, rfl⟩ | exact ⟨by rw [if_neg h2], rfl, rfl, rfl⟩ | exact ⟨by rw [if_neg h2], rfl, rfl, rfl⟩)
set_option maxHeartbeats 4000000 in
set_option maxRecDepth 100000 in
theorem C_X2_at {a n : Nat} {f : Nat → Int32} {i : Int32} (hr : xRow G T I a n f) (hn : n < 2 ^ 31) : xCon G Y_X2_at [.ref a, .int i] T R L I (xD (some (.int (xat n f i))) T R L I) := by
  refine xCon.mk (xl := [some (.ref a), some (.int i)]) (by decide +kernel) (xle_r _) rfl (Nat.le_of_ble_eq_true rfl) rfl ?_
  refine xV_iload_n e_X2_at_0 rfl ?_
  refine xV_if_lt e_X2_at_1 (fun h1 => ?_) (fun h1 => ?_)
  · refine xV_iconst (v := (nI 0)) e_X2_at_16 (by decide) ?_
    exact xV_ireturn e_X2_at_17 rfl rfl (by first | exact ⟨by rw [xat, if_pos (by simp only [bIn, Bool.and_eq_true, decide_eq_true_eq]; exact ⟨i_nle h1, Int32.not_le.mp h7⟩)], rfl, rfl, rfl⟩ | exact ⟨by rw [xat, if_neg (by simp only [bIn, Bool.and_eq_true, decide_eq_true_eq]; intro q; first | exact i_nlt h1 q.1 | exact i_nlt q.2 h7)], rfl, rfl, rfl⟩)
  · refine xV_iload_n e_X2_at_4 rfl ?_
    refine xV_aload_n e_X2_at_5 rfl ?_
    refine xV_alenN e_X2_at_6 hr ?_
    refine xV_icmp_ge e_X2_at_7 (fun h7 => ?_) (fun h7 => ?_)
    · refine xV_iconst (v := (nI 0)) e_X2_at_16 (by decide) ?_
      exact xV_ireturn e_X2_at_17 rfl rfl (by first | exact ⟨by rw [xat, if_pos (by simp only [bIn, Bool.and_eq_true, decide_eq_true_eq]; exact ⟨i_nle h1, Int32.not_le.mp h7⟩)], rfl, rfl, rfl⟩ | exact ⟨by rw [xat, if_neg (by simp only [bIn, Bool.and_eq_true, decide_eq_true_eq]; intro q; first | exact i_nlt h1 q.1 | exact i_nlt q.2 h7)], rfl, rfl, rfl⟩)
    · refine xV_aload_n e_X2_at_10 rfl ?_
      refine xV_iload_n e_X2_at_11 rfl ?_
      refine xV_iald e_X2_at_12 hr (bIn_vp hn (i_nle h1) (Int32.not_le.mp h7)) ?_
      refine xV_goto e_X2_at_13 ?_
      exact xV_ireturn e_X2_at_17 rfl rfl (by first | exact ⟨by rw [xat, if_pos (by simp only [bIn, Bool.and_eq_true, decide_eq_true_eq]; exact ⟨i_nle h1, Int32.not_le.mp h7⟩)], rfl, rfl, rfl⟩ | exact ⟨by rw [xat, if_neg (by simp only [bIn, Bool.and_eq_true, decide_eq_true_eq]; intro q; first | exact i_nlt h1 q.1 | exact i_nlt q.2 h7)], rfl, rfl, rfl⟩)
theorem C_X2_atN {a n k : Nat} {f : Nat → Int32} (hr : xRow G T I a n f) (hk : k < n) (hn : n < 2 ^ 31) : xCon G Y_X2_at [.ref a, .int (nI k)] T R L I (xD (some (.int (f k))) T R L I) := by
  have h := C_X2_at (R := R) (L := L) (i := nI k) hr hn
  rwa [xat_N hk hn] at h
set_option maxHeartbeats 4000000 in
set_option maxRecDepth 100000 in
theorem C_X2_put {a n : Nat} {i v : Int32} (hs : xSh G T a = (4, n)) (hn : n < 2 ^ 31) : xCon G Y_X2_put [.ref a, .int i, .int v] T R L I (xD none T R L (xput I a n i v)) := by
  refine xCon.mk (xl := [some (.ref a), some (.int i), some (.int v)]) (by decide +kernel) (xle_r _) rfl (Nat.le_of_ble_eq_true rfl) rfl ?_
  refine xV_iload_n e_X2_put_0 rfl ?_
  refine xV_if_lt e_X2_put_1 (fun h1 => ?_) (fun h1 => ?_)
  · exact xV_return e_X2_put_14 rfl rfl (by first | exact ⟨rfl, rfl, rfl, by rw [xput, if_pos (by simp only [bIn, Bool.and_eq_true, decide_eq_true_eq]; exact ⟨i_nle h1, Int32.not_le.mp h7⟩)]⟩ | exact ⟨rfl, rfl, rfl, by rw [xput, if_neg (by simp only [bIn, Bool.and_eq_true, decide_eq_true_eq]; intro q; first | exact i_nlt h1 q.1 | exact i_nlt q.2 h7)]⟩)
  · refine xV_iload_n e_X2_put_4 rfl ?_
    refine xV_aload_n e_X2_put_5 rfl ?_
    refine xV_alenN e_X2_put_6 (xRow.of hs) ?_
    refine xV_icmp_ge e_X2_put_7 (fun h7 => ?_) (fun h7 => ?_)
    · exact xV_return e_X2_put_14 rfl rfl (by first | exact ⟨rfl, rfl, rfl, by rw [xput, if_pos (by simp only [bIn, Bool.and_eq_true, decide_eq_true_eq]; exact ⟨i_nle h1, Int32.not_le.mp h7⟩)]⟩ | exact ⟨rfl, rfl, rfl, by rw [xput, if_neg (by simp only [bIn, Bool.and_eq_true, decide_eq_true_eq]; intro q; first | exact i_nlt h1 q.1 | exact i_nlt q.2 h7)]⟩)
    · refine xV_aload_n e_X2_put_10 rfl ?_
      refine xV_iload_n e_X2_put_11 rfl ?_
      refine xV_iload_n e_X2_put_12 rfl ?_
      refine xV_iast e_X2_put_13 hs (bIn_vp hn (i_nle h1) (Int32.not_le.mp h7)) ?_
      exact xV_return e_X2_put_14 rfl rfl (by first | exact ⟨rfl, rfl, rfl, by rw [xput, if_pos (by simp only [bIn, Bool.and_eq_true, decide_eq_true_eq]; exact ⟨i_nle h1, Int32.not_le.mp h7⟩)]⟩ | exact ⟨rfl, rfl, rfl, by rw [xput, if_neg (by simp only [bIn, Bool.and_eq_true, decide_eq_true_eq]; intro q; first | exact i_nlt h1 q.1 | exact i_nlt q.2 h7)]⟩)
theorem C_X2_putN {a n k : Nat} {v : Int32} (hs : xSh G T a = (4, n)) (hk : k < n) (hn : n < 2 ^ 31) : xCon G Y_X2_put [.ref a, .int (nI k), .int v] T R L I (xD none T R L (xst I a k v)) := by
  have h := C_X2_put (R := R) (L := L) (I := I) (i := nI k) (v := v) hs hn
  rwa [xput_N hk hn] at h
theorem C_X2_put1 {h n k : Nat} {v : Int32} {f w1 w2 w3 w4 w5 : Nat → Int32} (hs : xSh G T (h + 1) = (4, n)) (hk : k < n) (hn : n < 2 ^ 31) : xCon G Y_X2_put [.ref (h + 1), .int (nI k), .int v] T R L (pm I h (f, w1, w2, w3, w4, w5)) (xD none T R L (pm I h (f, upd w1 k v, w2, w3, w4, w5))) := by
  have h := C_X2_putN (R := R) (L := L) (I := pm I h (f, w1, w2, w3, w4, w5)) (v := v) hs hk hn
  rwa [pm_st1] at h
theorem C_X2_put2 {h n k : Nat} {v : Int32} {f w1 w2 w3 w4 w5 : Nat → Int32} (hs : xSh G T (h + 2) = (4, n)) (hk : k < n) (hn : n < 2 ^ 31) : xCon G Y_X2_put [.ref (h + 2), .int (nI k), .int v] T R L (pm I h (f, w1, w2, w3, w4, w5)) (xD none T R L (pm I h (f, w1, upd w2 k v, w3, w4, w5))) := by
  have h := C_X2_putN (R := R) (L := L) (I := pm I h (f, w1, w2, w3, w4, w5)) (v := v) hs hk hn
  rwa [pm_st2] at h
theorem C_X2_put3 {h n k : Nat} {v : Int32} {f w1 w2 w3 w4 w5 : Nat → Int32} (hs : xSh G T (h + 3) = (4, n)) (hk : k < n) (hn : n < 2 ^ 31) : xCon G Y_X2_put [.ref (h + 3), .int (nI k), .int v] T R L (pm I h (f, w1, w2, w3, w4, w5)) (xD none T R L (pm I h (f, w1, w2, upd w3 k v, w4, w5))) := by
  have h := C_X2_putN (R := R) (L := L) (I := pm I h (f, w1, w2, w3, w4, w5)) (v := v) hs hk hn
  rwa [pm_st3] at h
theorem C_X2_put4 {h n k : Nat} {v : Int32} {f w1 w2 w3 w4 w5 : Nat → Int32} (hs : xSh G T (h + 4) = (4, n)) (hk : k < n) (hn : n < 2 ^ 31) : xCon G Y_X2_put [.ref (h + 4), .int (nI k), .int v] T R L (pm I h (f, w1, w2, w3, w4, w5)) (xD none T R L (pm I h (f, w1, w2, w3, upd w4 k v, w5))) := by
  have h := C_X2_putN (R := R) (L := L) (I := pm I h (f, w1, w2, w3, w4, w5)) (v := v) hs hk hn
  rwa [pm_st4] at h
theorem C_X2_put5 {h n k : Nat} {v : Int32} {f w1 w2 w3 w4 w5 : Nat → Int32} (hs : xSh G T (h + 5) = (4, n)) (hk : k < n) (hn : n < 2 ^ 31) : xCon G Y_X2_put [.ref (h + 5), .int (nI k), .int v] T R L (pm I h (f, w1, w2, w3, w4, w5)) (xD none T R L (pm I h (f, w1, w2, w3, w4, upd w5 k v))) := by
  have h := C_X2_putN (R := R) (L := L) (I := pm I h (f, w1, w2, w3, w4, w5)) (v := v) hs hk hn
  rwa [pm_st5] at h
def xus (a k : Int32) : Int32 := (a.toUInt32 >>> (k.toUInt32 &&& Int32.toUInt32 31)).toInt32
def xbc (a : Int32) : Int32 :=
  let b := a - (xus a (nI 1) &&& 1431655765)
  let c := (b &&& 858993459) + (xus b (nI 2) &&& 858993459)
  let d := (c + xus c (nI 4)) &&& 252645135
  let e := d + xus d (nI 8)
  let f := e + xus e (nI 16)
  f &&& nI 63
set_option maxHeartbeats 4000000 in
set_option maxRecDepth 100000 in
theorem C_J6_bitCount_0f7a4 {a : Int32} : xCon G Y_J6_bitCount_0f7a4 [.int a] T R L I (xD (some (.int (xbc a))) T R L I) := by
  refine xCon.mk (xl := [some (.int a)]) (by decide +kernel) (xle_r _) rfl (Nat.le_of_ble_eq_true rfl) rfl ?_
  refine xV_iload_n e_J6_bitCount_0f7a4_0 rfl ?_
  refine xV_iload_n e_J6_bitCount_0f7a4_1 rfl ?_
  refine xV_iconst (v := (nI 1)) e_J6_bitCount_0f7a4_2 (by decide) ?_
  refine xV_iushr e_J6_bitCount_0f7a4_3 ?_
  refine xV_ldcw e_J6_bitCount_0f7a4_4 k_J6_265 ?_
  refine xV_iand e_J6_bitCount_0f7a4_7 ?_
  refine xV_isub e_J6_bitCount_0f7a4_8 ?_
  refine xV_istore_n e_J6_bitCount_0f7a4_9 (Nat.le_of_ble_eq_true rfl) rfl ?_
  refine xV_iload_n e_J6_bitCount_0f7a4_10 rfl ?_
  refine xV_ldcw e_J6_bitCount_0f7a4_11 k_J6_266 ?_
  refine xV_iand e_J6_bitCount_0f7a4_14 ?_
  refine xV_iload_n e_J6_bitCount_0f7a4_15 rfl ?_
  refine xV_iconst (v := (nI 2)) e_J6_bitCount_0f7a4_16 (by decide) ?_
  refine xV_iushr e_J6_bitCount_0f7a4_17 ?_
  refine xV_ldcw e_J6_bitCount_0f7a4_18 k_J6_266 ?_
  refine xV_iand e_J6_bitCount_0f7a4_21 ?_
  refine xV_iadd e_J6_bitCount_0f7a4_22 ?_
  refine xV_istore_n e_J6_bitCount_0f7a4_23 (Nat.le_of_ble_eq_true rfl) rfl ?_
  refine xV_iload_n e_J6_bitCount_0f7a4_24 rfl ?_
  refine xV_iload_n e_J6_bitCount_0f7a4_25 rfl ?_
  refine xV_iconst (v := (nI 4)) e_J6_bitCount_0f7a4_26 (by decide) ?_
  refine xV_iushr e_J6_bitCount_0f7a4_27 ?_
  refine xV_iadd e_J6_bitCount_0f7a4_28 ?_
  refine xV_ldcw e_J6_bitCount_0f7a4_29 k_J6_267 ?_
  refine xV_iand e_J6_bitCount_0f7a4_32 ?_
  refine xV_istore_n e_J6_bitCount_0f7a4_33 (Nat.le_of_ble_eq_true rfl) rfl ?_
  refine xV_iload_n e_J6_bitCount_0f7a4_34 rfl ?_
  refine xV_iload_n e_J6_bitCount_0f7a4_35 rfl ?_
  refine xV_bipush (v := (nI 8)) e_J6_bitCount_0f7a4_36 (by decide) ?_
  refine xV_iushr e_J6_bitCount_0f7a4_38 ?_
  refine xV_iadd e_J6_bitCount_0f7a4_39 ?_
  refine xV_istore_n e_J6_bitCount_0f7a4_40 (Nat.le_of_ble_eq_true rfl) rfl ?_
  refine xV_iload_n e_J6_bitCount_0f7a4_41 rfl ?_
  refine xV_iload_n e_J6_bitCount_0f7a4_42 rfl ?_
  refine xV_bipush (v := (nI 16)) e_J6_bitCount_0f7a4_43 (by decide) ?_
  refine xV_iushr e_J6_bitCount_0f7a4_45 ?_
  refine xV_iadd e_J6_bitCount_0f7a4_46 ?_
  refine xV_istore_n e_J6_bitCount_0f7a4_47 (Nat.le_of_ble_eq_true rfl) rfl ?_
  refine xV_iload_n e_J6_bitCount_0f7a4_48 rfl ?_
  refine xV_bipush (v := (nI 63)) e_J6_bitCount_0f7a4_49 (by decide) ?_
  refine xV_iand e_J6_bitCount_0f7a4_51 ?_
  exact xV_ireturn e_J6_bitCount_0f7a4_52 rfl rfl ⟨rfl, rfl, rfl, rfl⟩
end XLEAF
end
section
/-! MINE: reads, loosening, empty, clear, take -/
section XMINE
variable {G : xG} {T : xT} {R : xR} {L : xL} {I : xI}
theorem xloop {P : Nat → Prop} (N : Nat) (h : ∀ k, k ≤ N → (k < N → P (k + 1)) → P k) : ∀ k, k ≤ N → P k := by
  have key : ∀ n k, k + n = N → P k := by
    intro n
    induction n with
    | zero => intro k hk; exact h k (by omega) (fun q => absurd q (by omega))
    | succ n ih => intro k hk; exact h k (by omega) (fun _ => ih (k + 1) (by omega))
  exact fun k hk => key (N - k) k (by omega)
def bMonk (f : Nat → Int32) (m : Int32) : Bool := decide (0 ≤ m) && decide (m < f 6)
def bLiv (f : Nat → Int32) (m : Int32) : Bool := bMonk f m && !hs (f 8) m
def vLiv (f : Nat → Int32) : Int32 := ((nI 1 <<< (f 6 &&& 31)) - nI 1) &&& (f 8 ^^^ (-1))
def vOn (w : Nat → Int32) (cells : Int32) : Nat → Int32
  | 0 => nI 0
  | n + 1 => vOn w cells n ||| (((cells >>> (w n &&& 31)) &&& nI 1) <<< (nI n &&& 31))
def vSum (w : Nat → Int32) : Nat → Int32
  | 0 => nI 0
  | n + 1 => vSum w n + w n
def vDue (f w2 w3 : Nat → Int32) : Nat → Int32
  | 0 => nI 0
  | n + 1 => if w2 n ≤ f 5 + w3 n then vDue f w2 w3 n else vDue f w2 w3 n ||| (nI 1 <<< (nI n &&& 31))
theorem vDue_t {f w2 w3 : Nat → Int32} {n : Nat} (h : w2 n ≤ f 5 + w3 n) : vDue f w2 w3 (n + 1) = vDue f w2 w3 n := by rw [vDue, if_pos h]
theorem vDue_f {f w2 w3 : Nat → Int32} {n : Nat} (h : ¬ w2 n ≤ f 5 + w3 n) : vDue f w2 w3 (n + 1) = vDue f w2 w3 n ||| (nI 1 <<< (nI n &&& 31)) := by rw [vDue, if_neg h]
def mx0 (x : Int32) : Int32 := if nI 0 < x then x else nI 0
def vPw (f w2 w3 : Nat → Int32) : Nat → Int32
  | 0 => nI 0
  | n + 1 => vPw f w2 w3 n + mx0 (w2 n - f 5 - w3 n)
def m99 (x : Int32) : Int32 := if x < nI 99 then x else nI 99
def lsn (opn b : Int32) (w : Nat → Int32) (n : Nat) : Nat → Int32 := fun c => if c < n ∧ hs opn (nI c) = true then m99 (w c + b) else w c
theorem lsn_0 (opn b : Int32) (w : Nat → Int32) : lsn opn b w 0 = w := by funext c; simp [lsn]
theorem lsn_f {opn b : Int32} {w : Nat → Int32} {n : Nat} (h : (opn >>> (nI n &&& 31)) &&& nI 1 = 0) : lsn opn b w (n + 1) = lsn opn b w n := by
  funext c
  have hn : hs opn (nI n) = false := by simp [hs, h]
  unfold lsn
  by_cases e : c = n
  · subst e; simp [hn]
  · have : c < n + 1 ↔ c < n := by omega
    simp [this]
theorem lsn_t {opn b : Int32} {w : Nat → Int32} {n : Nat} (h : ¬ (opn >>> (nI n &&& 31)) &&& nI 1 = 0) : lsn opn b w (n + 1) = upd (lsn opn b w n) n (m99 (lsn opn b w n n + b)) := by
  funext c
  have hn : hs opn (nI n) = true := by simp [hs, h]
  by_cases e : c = n
  · subst e
    simp [lsn, upd, hn]
  · have : c < n + 1 ↔ c < n := by omega
    simp [lsn, upd, e, this]
def zr (w : Nat → Int32) (n : Nat) : Nat → Int32 := fun c => if c < n then nI 0 else w c
theorem zr_0 (w : Nat → Int32) : zr w 0 = w := by funext c; simp [zr]
theorem zr_s (w : Nat → Int32) (n : Nat) : upd (zr w n) n (nI 0) = zr w (n + 1) := by
  funext c
  by_cases e : c = n
  · subst e; simp [zr, upd]
  · have : c < n + 1 ↔ c < n := by omega
    simp [zr, upd, e, this]
theorem zr_at (w : Nat → Int32) (n : Nat) : zr w n n = w n := by simp [zr]
set_option maxHeartbeats 4000000 in
set_option maxRecDepth 100000 in
theorem C_X0_isFallen {f w1 w2 w3 w4 w5 : Nat → Int32} {h : Nat} (hm : MinS G T R h) {c : Int32} : xCon G Y_X0_isFallen [.ref h, .int c] T R L (pm I h (f, w1, w2, w3, w4, w5)) (xD (some (.int (xb (hs (f 9) c)))) T R L (pm I h (f, w1, w2, w3, w4, w5))) := by
  obtain ⟨m0, r0, r1, r2, r3, r4, s1, s2, s3, s4, s5⟩ := id hm
  refine xCon.mk (xl := [some (.ref h), some (.int c)]) (by decide +kernel) (xle_r _) rfl (Nat.le_of_ble_eq_true rfl) rfl ?_
  refine xV_aload_n e_X0_isFallen_0 rfl ?_
  refine xV_getF e_X0_isFallen_1 f_X0_44 (by assumption) ?_
  refine xV_iload_n e_X0_isFallen_4 rfl ?_
  refine xV_cS2i e_X0_isFallen_5 c_X0_59 (C_X2_has) (Nat.le_of_ble_eq_true rfl) ⟨(Nat.le_of_ble_eq_true rfl), (Nat.le_of_ble_eq_true rfl)⟩ (xle_r _) (xle_r _) ?_
  exact xV_zreturn e_X0_isFallen_8 rfl (xb_nar _) rfl ⟨rfl, rfl, rfl, rfl⟩
set_option maxHeartbeats 4000000 in
set_option maxRecDepth 100000 in
theorem C_X0_isMonk {f w1 w2 w3 w4 w5 : Nat → Int32} {h : Nat} (hm : MinS G T R h) {m : Int32} : xCon G Y_X0_isMonk [.ref h, .int m] T R L (pm I h (f, w1, w2, w3, w4, w5)) (xD (some (.int (xb (bMonk f m)))) T R L (pm I h (f, w1, w2, w3, w4, w5))) := by
  obtain ⟨m0, r0, r1, r2, r3, r4, s1, s2, s3, s4, s5⟩ := id hm
  refine xCon.mk (xl := [some (.ref h), some (.int m)]) (by decide +kernel) (xle_r _) rfl (Nat.le_of_ble_eq_true rfl) rfl ?_
  refine xV_iload_n e_X0_isMonk_0 rfl ?_
  refine xV_if_lt e_X0_isMonk_1 (fun h1 => ?_) (fun h1 => ?_)
  · refine xV_iconst (v := (nI 0)) e_X0_isMonk_16 (by decide) ?_
    exact xV_zreturn e_X0_isMonk_17 rfl rfl rfl (by first | exact ⟨xret_t (by simp only [bMonk, Bool.and_eq_true, decide_eq_true_eq]; exact ⟨i_nle h1, Int32.not_le.mp h9⟩), rfl, rfl, rfl⟩ | exact ⟨xret_f (by simp only [bMonk, Bool.and_eq_false_iff, decide_eq_false_iff_not]; first | exact Or.inl (i_nlt h1) | exact Or.inr (Int32.not_lt.mpr h9)), rfl, rfl, rfl⟩)
  · refine xV_iload_n e_X0_isMonk_4 rfl ?_
    refine xV_aload_n e_X0_isMonk_5 rfl ?_
    refine xV_getF e_X0_isMonk_6 f_X0_35 (by assumption) ?_
    refine xV_icmp_ge e_X0_isMonk_9 (fun h9 => ?_) (fun h9 => ?_)
    · refine xV_iconst (v := (nI 0)) e_X0_isMonk_16 (by decide) ?_
      exact xV_zreturn e_X0_isMonk_17 rfl rfl rfl (by first | exact ⟨xret_t (by simp only [bMonk, Bool.and_eq_true, decide_eq_true_eq]; exact ⟨i_nle h1, Int32.not_le.mp h9⟩), rfl, rfl, rfl⟩ | exact ⟨xret_f (by simp only [bMonk, Bool.and_eq_false_iff, decide_eq_false_iff_not]; first | exact Or.inl (i_nlt h1) | exact Or.inr (Int32.not_lt.mpr h9)), rfl, rfl, rfl⟩)
    · refine xV_iconst (v := (nI 1)) e_X0_isMonk_12 (by decide) ?_
      refine xV_goto e_X0_isMonk_13 ?_
      exact xV_zreturn e_X0_isMonk_17 rfl rfl rfl (by first | exact ⟨xret_t (by simp only [bMonk, Bool.and_eq_true, decide_eq_true_eq]; exact ⟨i_nle h1, Int32.not_le.mp h9⟩), rfl, rfl, rfl⟩ | exact ⟨xret_f (by simp only [bMonk, Bool.and_eq_false_iff, decide_eq_false_iff_not]; first | exact Or.inl (i_nlt h1) | exact Or.inr (Int32.not_lt.mpr h9)), rfl, rfl, rfl⟩)
set_option maxHeartbeats 4000000 in
set_option maxRecDepth 100000 in
theorem C_X0_isLiving {f w1 w2 w3 w4 w5 : Nat → Int32} {h : Nat} (hm : MinS G T R h) {m : Int32} : xCon G Y_X0_isLiving [.ref h, .int m] T R L (pm I h (f, w1, w2, w3, w4, w5)) (xD (some (.int (xb (bLiv f m)))) T R L (pm I h (f, w1, w2, w3, w4, w5))) := by
  obtain ⟨m0, r0, r1, r2, r3, r4, s1, s2, s3, s4, s5⟩ := id hm
  refine xCon.mk (xl := [some (.ref h), some (.int m)]) (by decide +kernel) (xle_r _) rfl (Nat.le_of_ble_eq_true rfl) rfl ?_
  refine xV_aload_n e_X0_isLiving_0 rfl ?_
  refine xV_iload_n e_X0_isLiving_1 rfl ?_
  refine xV_cV1i e_X0_isLiving_2 c_X0_63 (by assumption) (C_X0_isMonk hm) (Nat.le_of_ble_eq_true rfl) ⟨(Nat.le_of_ble_eq_true rfl), (Nat.le_of_ble_eq_true rfl)⟩ (xle_r _) (xle_r _) ?_
  refine xV_if_eqB e_X0_isLiving_5 (fun h5 => ?_) (fun h5 => ?_)
  · refine xV_iconst (v := (nI 0)) e_X0_isLiving_23 (by decide) ?_
    exact xV_zreturn e_X0_isLiving_24 rfl rfl rfl (by first | exact ⟨xret_t (by simp_all [bLiv]), rfl, rfl, rfl⟩ | exact ⟨xret_f (by simp_all [bLiv]), rfl, rfl, rfl⟩)
  · refine xV_aload_n e_X0_isLiving_8 rfl ?_
    refine xV_getF e_X0_isLiving_9 f_X0_41 (by assumption) ?_
    refine xV_iload_n e_X0_isLiving_12 rfl ?_
    refine xV_cS2i e_X0_isLiving_13 c_X0_59 (C_X2_has) (Nat.le_of_ble_eq_true rfl) ⟨(Nat.le_of_ble_eq_true rfl), (Nat.le_of_ble_eq_true rfl)⟩ (xle_r _) (xle_r _) ?_
    refine xV_if_neB e_X0_isLiving_16 (fun h16 => ?_) (fun h16 => ?_)
    · refine xV_iconst (v := (nI 0)) e_X0_isLiving_23 (by decide) ?_
      exact xV_zreturn e_X0_isLiving_24 rfl rfl rfl (by first | exact ⟨xret_t (by simp_all [bLiv]), rfl, rfl, rfl⟩ | exact ⟨xret_f (by simp_all [bLiv]), rfl, rfl, rfl⟩)
    · refine xV_iconst (v := (nI 1)) e_X0_isLiving_19 (by decide) ?_
      refine xV_goto e_X0_isLiving_20 ?_
      exact xV_zreturn e_X0_isLiving_24 rfl rfl rfl (by first | exact ⟨xret_t (by simp_all [bLiv]), rfl, rfl, rfl⟩ | exact ⟨xret_f (by simp_all [bLiv]), rfl, rfl, rfl⟩)
set_option maxHeartbeats 4000000 in
set_option maxRecDepth 100000 in
theorem C_X0_living {f w1 w2 w3 w4 w5 : Nat → Int32} {h : Nat} (hm : MinS G T R h)  : xCon G Y_X0_living [.ref h] T R L (pm I h (f, w1, w2, w3, w4, w5)) (xD (some (.int (vLiv f))) T R L (pm I h (f, w1, w2, w3, w4, w5))) := by
  obtain ⟨m0, r0, r1, r2, r3, r4, s1, s2, s3, s4, s5⟩ := id hm
  refine xCon.mk (xl := [some (.ref h)]) (by decide +kernel) (xle_r _) rfl (Nat.le_of_ble_eq_true rfl) rfl ?_
  refine xV_iconst (v := (nI 1)) e_X0_living_0 (by decide) ?_
  refine xV_aload_n e_X0_living_1 rfl ?_
  refine xV_getF e_X0_living_2 f_X0_35 (by assumption) ?_
  refine xV_ishl e_X0_living_5 ?_
  refine xV_iconst (v := (nI 1)) e_X0_living_6 (by decide) ?_
  refine xV_isub e_X0_living_7 ?_
  refine xV_aload_n e_X0_living_8 rfl ?_
  refine xV_getF e_X0_living_9 f_X0_41 (by assumption) ?_
  refine xV_iconst (v := (-1)) e_X0_living_12 (by decide) ?_
  refine xV_ixor e_X0_living_13 ?_
  refine xV_iand e_X0_living_14 ?_
  exact xV_ireturn e_X0_living_15 rfl rfl ⟨rfl, rfl, rfl, rfl⟩
set_option maxHeartbeats 4000000 in
set_option maxRecDepth 100000 in
theorem C_X0_placeOf {f w1 w2 w3 w4 w5 : Nat → Int32} {h : Nat} (hm : MinS G T R h) {m : Int32} : xCon G Y_X0_placeOf [.ref h, .int m] T R L (pm I h (f, w1, w2, w3, w4, w5)) (xD (some (.int (xat 4 w5 m))) T R L (pm I h (f, w1, w2, w3, w4, w5))) := by
  obtain ⟨m0, r0, r1, r2, r3, r4, s1, s2, s3, s4, s5⟩ := id hm
  refine xCon.mk (xl := [some (.ref h), some (.int m)]) (by decide +kernel) (xle_r _) rfl (Nat.le_of_ble_eq_true rfl) rfl ?_
  refine xV_aload_n e_X0_placeOf_0 rfl ?_
  refine xV_getR e_X0_placeOf_1 f_X0_24 (by assumption) (by assumption) ?_
  refine xV_iload_n e_X0_placeOf_4 rfl ?_
  refine xV_cS2i e_X0_placeOf_5 c_X0_67 (C_X2_at (xRow.p5 s5) (by omega)) (Nat.le_of_ble_eq_true rfl) ⟨(Nat.le_of_ble_eq_true rfl), (Nat.le_of_ble_eq_true rfl)⟩ (xle_r _) (xle_r _) ?_
  exact xV_ireturn e_X0_placeOf_8 rfl rfl ⟨rfl, rfl, rfl, rfl⟩
theorem C_X0_placeN {f w1 w2 w3 w4 w5 : Nat → Int32} {h mi pl : Nat} (hm : MinS G T R h) (hmi : mi < 4) (hp : w5 mi = nI pl) : xCon G Y_X0_placeOf [.ref h, .int (nI mi)] T R L (pm I h (f, w1, w2, w3, w4, w5)) (xD (some (.int (nI pl))) T R L (pm I h (f, w1, w2, w3, w4, w5))) := by
  have h := C_X0_placeOf (L := L) (I := I) (f := f) (w1 := w1) (w2 := w2) (w3 := w3) (w4 := w4) (w5 := w5) (m := nI mi) hm
  rwa [xat_N hmi (by omega), hp] at h
set_option maxHeartbeats 4000000 in
set_option maxRecDepth 100000 in
theorem P_X0_monksOn_4 {f w1 w2 w3 w4 w5 : Nat → Int32} {h : Nat} (hm : MinS G T R h) {mo : Nat} (hmo : f 6 = nI mo) (hm4 : mo ≤ 4) {cells : Int32} : ∀ k, k ≤ mo → xV G Y_X0_monksOn T (xD (some (.int (vOn w5 cells mo))) T R L (pm I h (f, w1, w2, w3, w4, w5))) 4 [some (.ref h), some (.int cells), some (.int (vOn w5 cells k)), some (.int (nI k))] [] T R L (pm I h (f, w1, w2, w3, w4, w5)) := by
  obtain ⟨m0, r0, r1, r2, r3, r4, s1, s2, s3, s4, s5⟩ := id hm
  refine xloop mo (fun k hk ih => ?_)
  refine xV_iload_n e_X0_monksOn_4 rfl ?_
  refine xV_aload_n e_X0_monksOn_5 rfl ?_
  refine xV_getF e_X0_monksOn_6 f_X0_35 (by assumption) ?_
  rw [hmo]
  refine xV_icmp_geN e_X0_monksOn_9 (by omega) (by omega) (fun h9 => ?_) (fun h9 => ?_)
  · obtain rfl : k = mo := by omega
    refine xV_iload_n e_X0_monksOn_42 rfl ?_
    exact xV_ireturn e_X0_monksOn_43 rfl rfl ⟨rfl, rfl, rfl, rfl⟩
  · refine xV_iload_n e_X0_monksOn_12 rfl ?_
    refine xV_aload_n e_X0_monksOn_13 rfl ?_
    refine xV_getR e_X0_monksOn_14 f_X0_24 (by assumption) (by assumption) ?_
    refine xV_alenN e_X0_monksOn_17 (by first | exact xRow.p1 (by assumption) | exact xRow.p2 (by assumption) | exact xRow.p3 (by assumption) | exact xRow.p4 (by assumption) | exact xRow.p5 (by assumption)) ?_
    refine xV_icmp_geN e_X0_monksOn_18 (by omega) (by omega) (fun h18 => ?_) (fun h18 => ?_)
    · obtain rfl : k = mo := by omega
      refine xV_iload_n e_X0_monksOn_42 rfl ?_
      exact xV_ireturn e_X0_monksOn_43 rfl rfl ⟨rfl, rfl, rfl, rfl⟩
    · refine xV_iload_n e_X0_monksOn_21 rfl ?_
      refine xV_iload_n e_X0_monksOn_22 rfl ?_
      refine xV_aload_n e_X0_monksOn_23 rfl ?_
      refine xV_getR e_X0_monksOn_24 f_X0_24 (by assumption) (by assumption) ?_
      refine xV_iload_n e_X0_monksOn_27 rfl ?_
      refine xV_ialdN e_X0_monksOn_28 (by first | exact xRow.p1 (by assumption) | exact xRow.p2 (by assumption) | exact xRow.p3 (by assumption) | exact xRow.p4 (by assumption) | exact xRow.p5 (by assumption)) (by omega) (by omega) ?_
      refine xV_ishr e_X0_monksOn_29 ?_
      refine xV_iconst (v := (nI 1)) e_X0_monksOn_30 (by decide) ?_
      refine xV_iand e_X0_monksOn_31 ?_
      refine xV_iload_n e_X0_monksOn_32 rfl ?_
      refine xV_ishl e_X0_monksOn_33 ?_
      refine xV_ior e_X0_monksOn_34 ?_
      refine xV_istore_n e_X0_monksOn_35 (Nat.le_of_ble_eq_true rfl) rfl ?_
      refine xV_iincN e_X0_monksOn_36 rfl rfl ?_
      refine xV_goto e_X0_monksOn_39 ?_
      exact ih (by omega)
set_option maxHeartbeats 4000000 in
set_option maxRecDepth 100000 in
theorem C_X0_monksOn {f w1 w2 w3 w4 w5 : Nat → Int32} {h : Nat} (hm : MinS G T R h) {mo : Nat} (hmo : f 6 = nI mo) (hm4 : mo ≤ 4) {cells : Int32} : xCon G Y_X0_monksOn [.ref h, .int cells] T R L (pm I h (f, w1, w2, w3, w4, w5)) (xD (some (.int (vOn w5 cells mo))) T R L (pm I h (f, w1, w2, w3, w4, w5))) := by
  obtain ⟨m0, r0, r1, r2, r3, r4, s1, s2, s3, s4, s5⟩ := id hm
  refine xCon.mk (xl := [some (.ref h), some (.int cells), none, none]) (by decide +kernel) (xle_r _) rfl (Nat.le_of_ble_eq_true rfl) rfl ?_
  refine xV_iconst (v := (nI 0)) e_X0_monksOn_0 (by decide) ?_
  refine xV_istore_n e_X0_monksOn_1 (Nat.le_of_ble_eq_true rfl) rfl ?_
  refine xV_iconst (v := (nI 0)) e_X0_monksOn_2 (by decide) ?_
  refine xV_istore_n e_X0_monksOn_3 (Nat.le_of_ble_eq_true rfl) rfl ?_
  exact P_X0_monksOn_4 hm hmo hm4 0 (Nat.zero_le _)
set_option maxHeartbeats 4000000 in
set_option maxRecDepth 100000 in
theorem P_X0_oreLeft_4 {f w1 w2 w3 w4 w5 : Nat → Int32} {h : Nat} (hm : MinS G T R h)  : ∀ k, k ≤ 12 → xV G Y_X0_oreLeft T (xD (some (.int (vSum w1 12))) T R L (pm I h (f, w1, w2, w3, w4, w5))) 4 [some (.ref h), some (.int (vSum w1 k)), some (.int (nI k))] [] T R L (pm I h (f, w1, w2, w3, w4, w5)) := by
  obtain ⟨m0, r0, r1, r2, r3, r4, s1, s2, s3, s4, s5⟩ := id hm
  refine xloop 12 (fun k hk ih => ?_)
  refine xV_iload_n e_X0_oreLeft_4 rfl ?_
  refine xV_aload_n e_X0_oreLeft_5 rfl ?_
  refine xV_getR e_X0_oreLeft_6 f_X0_9 (by assumption) (by assumption) ?_
  refine xV_alenN e_X0_oreLeft_9 (by first | exact xRow.p1 (by assumption) | exact xRow.p2 (by assumption) | exact xRow.p3 (by assumption) | exact xRow.p4 (by assumption) | exact xRow.p5 (by assumption)) ?_
  refine xV_icmp_geN e_X0_oreLeft_10 (by omega) (by omega) (fun h10 => ?_) (fun h10 => ?_)
  · obtain rfl : k = 12 := by omega
    refine xV_iload_n e_X0_oreLeft_28 rfl ?_
    exact xV_ireturn e_X0_oreLeft_29 rfl rfl ⟨rfl, rfl, rfl, rfl⟩
  · refine xV_iload_n e_X0_oreLeft_13 rfl ?_
    refine xV_aload_n e_X0_oreLeft_14 rfl ?_
    refine xV_getR e_X0_oreLeft_15 f_X0_9 (by assumption) (by assumption) ?_
    refine xV_iload_n e_X0_oreLeft_18 rfl ?_
    refine xV_ialdN e_X0_oreLeft_19 (by first | exact xRow.p1 (by assumption) | exact xRow.p2 (by assumption) | exact xRow.p3 (by assumption) | exact xRow.p4 (by assumption) | exact xRow.p5 (by assumption)) (by omega) (by omega) ?_
    refine xV_iadd e_X0_oreLeft_20 ?_
    refine xV_istore_n e_X0_oreLeft_21 (Nat.le_of_ble_eq_true rfl) rfl ?_
    refine xV_iincN e_X0_oreLeft_22 rfl rfl ?_
    refine xV_goto e_X0_oreLeft_25 ?_
    exact ih (by omega)
set_option maxHeartbeats 4000000 in
set_option maxRecDepth 100000 in
theorem C_X0_oreLeft {f w1 w2 w3 w4 w5 : Nat → Int32} {h : Nat} (hm : MinS G T R h)  : xCon G Y_X0_oreLeft [.ref h] T R L (pm I h (f, w1, w2, w3, w4, w5)) (xD (some (.int (vSum w1 12))) T R L (pm I h (f, w1, w2, w3, w4, w5))) := by
  obtain ⟨m0, r0, r1, r2, r3, r4, s1, s2, s3, s4, s5⟩ := id hm
  refine xCon.mk (xl := [some (.ref h), none, none]) (by decide +kernel) (xle_r _) rfl (Nat.le_of_ble_eq_true rfl) rfl ?_
  refine xV_iconst (v := (nI 0)) e_X0_oreLeft_0 (by decide) ?_
  refine xV_istore_n e_X0_oreLeft_1 (Nat.le_of_ble_eq_true rfl) rfl ?_
  refine xV_iconst (v := (nI 0)) e_X0_oreLeft_2 (by decide) ?_
  refine xV_istore_n e_X0_oreLeft_3 (Nat.le_of_ble_eq_true rfl) rfl ?_
  exact P_X0_oreLeft_4 hm 0 (Nat.zero_le _)
set_option maxHeartbeats 4000000 in
set_option maxRecDepth 100000 in
theorem P_X0_tooLoose_4 {f w1 w2 w3 w4 w5 : Nat → Int32} {h : Nat} (hm : MinS G T R h)  : ∀ k, k ≤ 12 → xV G Y_X0_tooLoose T (xD (some (.int (vDue f w2 w3 12))) T R L (pm I h (f, w1, w2, w3, w4, w5))) 4 [some (.ref h), some (.int (vDue f w2 w3 k)), some (.int (nI k))] [] T R L (pm I h (f, w1, w2, w3, w4, w5)) := by
  obtain ⟨m0, r0, r1, r2, r3, r4, s1, s2, s3, s4, s5⟩ := id hm
  refine xloop 12 (fun k hk ih => ?_)
  refine xV_iload_n e_X0_tooLoose_4 rfl ?_
  refine xV_aload_n e_X0_tooLoose_5 rfl ?_
  refine xV_getR e_X0_tooLoose_6 f_X0_15 (by assumption) (by assumption) ?_
  refine xV_alenN e_X0_tooLoose_9 (by first | exact xRow.p1 (by assumption) | exact xRow.p2 (by assumption) | exact xRow.p3 (by assumption) | exact xRow.p4 (by assumption) | exact xRow.p5 (by assumption)) ?_
  refine xV_icmp_geN e_X0_tooLoose_10 (by omega) (by omega) (fun h10 => ?_) (fun h10 => ?_)
  · obtain rfl : k = 12 := by omega
    refine xV_iload_n e_X0_tooLoose_54 rfl ?_
    exact xV_ireturn e_X0_tooLoose_55 rfl rfl ⟨rfl, rfl, rfl, rfl⟩
  · refine xV_iload_n e_X0_tooLoose_13 rfl ?_
    refine xV_aload_n e_X0_tooLoose_14 rfl ?_
    refine xV_getR e_X0_tooLoose_15 f_X0_18 (by assumption) (by assumption) ?_
    refine xV_alenN e_X0_tooLoose_18 (by first | exact xRow.p1 (by assumption) | exact xRow.p2 (by assumption) | exact xRow.p3 (by assumption) | exact xRow.p4 (by assumption) | exact xRow.p5 (by assumption)) ?_
    refine xV_icmp_geN e_X0_tooLoose_19 (by omega) (by omega) (fun h19 => ?_) (fun h19 => ?_)
    · obtain rfl : k = 12 := by omega
      refine xV_iload_n e_X0_tooLoose_54 rfl ?_
      exact xV_ireturn e_X0_tooLoose_55 rfl rfl ⟨rfl, rfl, rfl, rfl⟩
    · refine xV_aload_n e_X0_tooLoose_22 rfl ?_
      refine xV_getR e_X0_tooLoose_23 f_X0_15 (by assumption) (by assumption) ?_
      refine xV_iload_n e_X0_tooLoose_26 rfl ?_
      refine xV_ialdN e_X0_tooLoose_27 (by first | exact xRow.p1 (by assumption) | exact xRow.p2 (by assumption) | exact xRow.p3 (by assumption) | exact xRow.p4 (by assumption) | exact xRow.p5 (by assumption)) (by omega) (by omega) ?_
      refine xV_aload_n e_X0_tooLoose_28 rfl ?_
      refine xV_getF e_X0_tooLoose_29 f_X0_27 (by assumption) ?_
      refine xV_aload_n e_X0_tooLoose_32 rfl ?_
      refine xV_getR e_X0_tooLoose_33 f_X0_18 (by assumption) (by assumption) ?_
      refine xV_iload_n e_X0_tooLoose_36 rfl ?_
      refine xV_ialdN e_X0_tooLoose_37 (by first | exact xRow.p1 (by assumption) | exact xRow.p2 (by assumption) | exact xRow.p3 (by assumption) | exact xRow.p4 (by assumption) | exact xRow.p5 (by assumption)) (by omega) (by omega) ?_
      refine xV_iadd e_X0_tooLoose_38 ?_
      refine xV_icmp_le e_X0_tooLoose_39 (fun h39 => ?_) (fun h39 => ?_)
      · refine xV_iincN e_X0_tooLoose_48 rfl rfl ?_
        refine xV_goto e_X0_tooLoose_51 ?_
        have q := ih (by omega)
        first | rw [vDue_t (n := k) h39] at q | rw [vDue_f (n := k) h39] at q
        exact q
      · refine xV_iload_n e_X0_tooLoose_42 rfl ?_
        refine xV_iconst (v := (nI 1)) e_X0_tooLoose_43 (by decide) ?_
        refine xV_iload_n e_X0_tooLoose_44 rfl ?_
        refine xV_ishl e_X0_tooLoose_45 ?_
        refine xV_ior e_X0_tooLoose_46 ?_
        refine xV_istore_n e_X0_tooLoose_47 (Nat.le_of_ble_eq_true rfl) rfl ?_
        refine xV_iincN e_X0_tooLoose_48 rfl rfl ?_
        refine xV_goto e_X0_tooLoose_51 ?_
        have q := ih (by omega)
        first | rw [vDue_t (n := k) h39] at q | rw [vDue_f (n := k) h39] at q
        exact q
set_option maxHeartbeats 4000000 in
set_option maxRecDepth 100000 in
theorem C_X0_tooLoose {f w1 w2 w3 w4 w5 : Nat → Int32} {h : Nat} (hm : MinS G T R h)  : xCon G Y_X0_tooLoose [.ref h] T R L (pm I h (f, w1, w2, w3, w4, w5)) (xD (some (.int (vDue f w2 w3 12))) T R L (pm I h (f, w1, w2, w3, w4, w5))) := by
  obtain ⟨m0, r0, r1, r2, r3, r4, s1, s2, s3, s4, s5⟩ := id hm
  refine xCon.mk (xl := [some (.ref h), none, none]) (by decide +kernel) (xle_r _) rfl (Nat.le_of_ble_eq_true rfl) rfl ?_
  refine xV_iconst (v := (nI 0)) e_X0_tooLoose_0 (by decide) ?_
  refine xV_istore_n e_X0_tooLoose_1 (Nat.le_of_ble_eq_true rfl) rfl ?_
  refine xV_iconst (v := (nI 0)) e_X0_tooLoose_2 (by decide) ?_
  refine xV_istore_n e_X0_tooLoose_3 (Nat.le_of_ble_eq_true rfl) rfl ?_
  exact P_X0_tooLoose_4 hm 0 (Nat.zero_le _)
set_option maxHeartbeats 4000000 in
set_option maxRecDepth 100000 in
theorem P_X0_propsWanting_4 {f w1 w2 w3 w4 w5 : Nat → Int32} {h : Nat} (hm : MinS G T R h)  : ∀ k, k ≤ 12 → xV G Y_X0_propsWanting T (xD (some (.int (vPw f w2 w3 12))) T R L (pm I h (f, w1, w2, w3, w4, w5))) 4 [some (.ref h), some (.int (vPw f w2 w3 k)), some (.int (nI k))] [] T R L (pm I h (f, w1, w2, w3, w4, w5)) := by
  obtain ⟨m0, r0, r1, r2, r3, r4, s1, s2, s3, s4, s5⟩ := id hm
  refine xloop 12 (fun k hk ih => ?_)
  refine xV_iload_n e_X0_propsWanting_4 rfl ?_
  refine xV_aload_n e_X0_propsWanting_5 rfl ?_
  refine xV_getR e_X0_propsWanting_6 f_X0_15 (by assumption) (by assumption) ?_
  refine xV_alenN e_X0_propsWanting_9 (by first | exact xRow.p1 (by assumption) | exact xRow.p2 (by assumption) | exact xRow.p3 (by assumption) | exact xRow.p4 (by assumption) | exact xRow.p5 (by assumption)) ?_
  refine xV_icmp_geN e_X0_propsWanting_10 (by omega) (by omega) (fun h10 => ?_) (fun h10 => ?_)
  · obtain rfl : k = 12 := by omega
    refine xV_iload_n e_X0_propsWanting_53 rfl ?_
    exact xV_ireturn e_X0_propsWanting_54 rfl rfl ⟨rfl, rfl, rfl, rfl⟩
  · refine xV_iload_n e_X0_propsWanting_13 rfl ?_
    refine xV_aload_n e_X0_propsWanting_14 rfl ?_
    refine xV_getR e_X0_propsWanting_15 f_X0_18 (by assumption) (by assumption) ?_
    refine xV_alenN e_X0_propsWanting_18 (by first | exact xRow.p1 (by assumption) | exact xRow.p2 (by assumption) | exact xRow.p3 (by assumption) | exact xRow.p4 (by assumption) | exact xRow.p5 (by assumption)) ?_
    refine xV_icmp_geN e_X0_propsWanting_19 (by omega) (by omega) (fun h19 => ?_) (fun h19 => ?_)
    · obtain rfl : k = 12 := by omega
      refine xV_iload_n e_X0_propsWanting_53 rfl ?_
      exact xV_ireturn e_X0_propsWanting_54 rfl rfl ⟨rfl, rfl, rfl, rfl⟩
    · refine xV_iload_n e_X0_propsWanting_22 rfl ?_
      refine xV_iconst (v := (nI 0)) e_X0_propsWanting_23 (by decide) ?_
      refine xV_aload_n e_X0_propsWanting_24 rfl ?_
      refine xV_getR e_X0_propsWanting_25 f_X0_15 (by assumption) (by assumption) ?_
      refine xV_iload_n e_X0_propsWanting_28 rfl ?_
      refine xV_ialdN e_X0_propsWanting_29 (by first | exact xRow.p1 (by assumption) | exact xRow.p2 (by assumption) | exact xRow.p3 (by assumption) | exact xRow.p4 (by assumption) | exact xRow.p5 (by assumption)) (by omega) (by omega) ?_
      refine xV_aload_n e_X0_propsWanting_30 rfl ?_
      refine xV_getF e_X0_propsWanting_31 f_X0_27 (by assumption) ?_
      refine xV_isub e_X0_propsWanting_34 ?_
      refine xV_aload_n e_X0_propsWanting_35 rfl ?_
      refine xV_getR e_X0_propsWanting_36 f_X0_18 (by assumption) (by assumption) ?_
      refine xV_iload_n e_X0_propsWanting_39 rfl ?_
      refine xV_ialdN e_X0_propsWanting_40 (by first | exact xRow.p1 (by assumption) | exact xRow.p2 (by assumption) | exact xRow.p3 (by assumption) | exact xRow.p4 (by assumption) | exact xRow.p5 (by assumption)) (by omega) (by omega) ?_
      refine xV_isub e_X0_propsWanting_41 ?_
      refine xV_cS2i e_X0_propsWanting_42 c_X0_111 (C_J9_max_7cf53) (Nat.le_of_ble_eq_true rfl) ⟨(Nat.le_of_ble_eq_true rfl), (Nat.le_of_ble_eq_true rfl)⟩ (xle_r _) (xle_r _) ?_
      refine xV_iadd e_X0_propsWanting_45 ?_
      refine xV_istore_n e_X0_propsWanting_46 (Nat.le_of_ble_eq_true rfl) rfl ?_
      refine xV_iincN e_X0_propsWanting_47 rfl rfl ?_
      refine xV_goto e_X0_propsWanting_50 ?_
      exact ih (by omega)
set_option maxHeartbeats 4000000 in
set_option maxRecDepth 100000 in
theorem C_X0_propsWanting {f w1 w2 w3 w4 w5 : Nat → Int32} {h : Nat} (hm : MinS G T R h)  : xCon G Y_X0_propsWanting [.ref h] T R L (pm I h (f, w1, w2, w3, w4, w5)) (xD (some (.int (vPw f w2 w3 12))) T R L (pm I h (f, w1, w2, w3, w4, w5))) := by
  obtain ⟨m0, r0, r1, r2, r3, r4, s1, s2, s3, s4, s5⟩ := id hm
  refine xCon.mk (xl := [some (.ref h), none, none]) (by decide +kernel) (xle_r _) rfl (Nat.le_of_ble_eq_true rfl) rfl ?_
  refine xV_iconst (v := (nI 0)) e_X0_propsWanting_0 (by decide) ?_
  refine xV_istore_n e_X0_propsWanting_1 (Nat.le_of_ble_eq_true rfl) rfl ?_
  refine xV_iconst (v := (nI 0)) e_X0_propsWanting_2 (by decide) ?_
  refine xV_istore_n e_X0_propsWanting_3 (Nat.le_of_ble_eq_true rfl) rfl ?_
  exact P_X0_propsWanting_4 hm 0 (Nat.zero_le _)
set_option maxHeartbeats 4000000 in
set_option maxRecDepth 100000 in
theorem P_X0_loosen_12 {f w1 w2 w3 w4 w5 : Nat → Int32} {h : Nat} (hm : MinS G T R h) {opn b cells : Int32} : ∀ k, k ≤ 12 → xV G Y_X0_loosen T (xD (none) T R L (pm I h (f, w1, lsn opn b w2 12, w3, w4, w5))) 12 [some (.ref h), some (.int cells), some (.int b), some (.int opn), some (.int (nI k))] [] T R L (pm I h (f, w1, lsn opn b w2 k, w3, w4, w5)) := by
  obtain ⟨m0, r0, r1, r2, r3, r4, s1, s2, s3, s4, s5⟩ := id hm
  refine xloop 12 (fun k hk ih => ?_)
  refine xV_iload e_X0_loosen_12 rfl ?_
  refine xV_aload_n e_X0_loosen_14 rfl ?_
  refine xV_getR e_X0_loosen_15 f_X0_15 (by assumption) (by assumption) ?_
  refine xV_alenN e_X0_loosen_18 (by first | exact xRow.p1 (by assumption) | exact xRow.p2 (by assumption) | exact xRow.p3 (by assumption) | exact xRow.p4 (by assumption) | exact xRow.p5 (by assumption)) ?_
  refine xV_icmp_geN e_X0_loosen_19 (by omega) (by omega) (fun h19 => ?_) (fun h19 => ?_)
  · obtain rfl : k = 12 := by omega
    exact xV_return e_X0_loosen_58 rfl rfl ⟨rfl, rfl, rfl, rfl⟩
  · refine xV_iload_n e_X0_loosen_22 rfl ?_
    refine xV_iload e_X0_loosen_23 rfl ?_
    refine xV_ishr e_X0_loosen_25 ?_
    refine xV_iconst (v := (nI 1)) e_X0_loosen_26 (by decide) ?_
    refine xV_iand e_X0_loosen_27 ?_
    refine xV_if_eq e_X0_loosen_28 (fun h28 => ?_) (fun h28 => ?_)
    · refine xV_iincN e_X0_loosen_52 rfl rfl ?_
      refine xV_goto e_X0_loosen_55 ?_
      have q := ih (by omega)
      first | rw [lsn_f h28] at q | rw [lsn_t h28] at q
      exact q
    · refine xV_aload_n e_X0_loosen_31 rfl ?_
      refine xV_getR e_X0_loosen_32 f_X0_15 (by assumption) (by assumption) ?_
      refine xV_iload e_X0_loosen_35 rfl ?_
      refine xV_bipush (v := (nI 99)) e_X0_loosen_37 (by decide) ?_
      refine xV_aload_n e_X0_loosen_39 rfl ?_
      refine xV_getR e_X0_loosen_40 f_X0_15 (by assumption) (by assumption) ?_
      refine xV_iload e_X0_loosen_43 rfl ?_
      refine xV_ialdN e_X0_loosen_45 (by first | exact xRow.p1 (by assumption) | exact xRow.p2 (by assumption) | exact xRow.p3 (by assumption) | exact xRow.p4 (by assumption) | exact xRow.p5 (by assumption)) (by omega) (by omega) ?_
      refine xV_iload_n e_X0_loosen_46 rfl ?_
      refine xV_iadd e_X0_loosen_47 ?_
      refine xV_cS2i e_X0_loosen_48 c_X0_117 (C_J9_min_7cf53) (Nat.le_of_ble_eq_true rfl) ⟨(Nat.le_of_ble_eq_true rfl), (Nat.le_of_ble_eq_true rfl)⟩ (xle_r _) (xle_r _) ?_
      first | refine xV_iast1 e_X0_loosen_51 (by assumption) (by omega) (by omega) ?_ | refine xV_iast2 e_X0_loosen_51 (by assumption) (by omega) (by omega) ?_ | refine xV_iast3 e_X0_loosen_51 (by assumption) (by omega) (by omega) ?_ | refine xV_iast4 e_X0_loosen_51 (by assumption) (by omega) (by omega) ?_ | refine xV_iast5 e_X0_loosen_51 (by assumption) (by omega) (by omega) ?_
      refine xV_iincN e_X0_loosen_52 rfl rfl ?_
      refine xV_goto e_X0_loosen_55 ?_
      have q := ih (by omega)
      first | rw [lsn_f h28] at q | rw [lsn_t h28] at q
      exact q
set_option maxHeartbeats 4000000 in
set_option maxRecDepth 100000 in
theorem C_X0_loosen {f w1 w2 w3 w4 w5 : Nat → Int32} {h : Nat} (hm : MinS G T R h) {cells b : Int32} : xCon G Y_X0_loosen [.ref h, .int cells, .int b] T R L (pm I h (f, w1, w2, w3, w4, w5)) (xD (none) T R L (pm I h (f, w1, lsn (cells &&& (f 9 ^^^ (-1))) b w2 12, w3, w4, w5))) := by
  obtain ⟨m0, r0, r1, r2, r3, r4, s1, s2, s3, s4, s5⟩ := id hm
  refine xCon.mk (xl := [some (.ref h), some (.int cells), some (.int b), none, none]) (by decide +kernel) (xle_r _) rfl (Nat.le_of_ble_eq_true rfl) rfl ?_
  refine xV_iload_n e_X0_loosen_0 rfl ?_
  refine xV_aload_n e_X0_loosen_1 rfl ?_
  refine xV_getF e_X0_loosen_2 f_X0_44 (by assumption) ?_
  refine xV_iconst (v := (-1)) e_X0_loosen_5 (by decide) ?_
  refine xV_ixor e_X0_loosen_6 ?_
  refine xV_iand e_X0_loosen_7 ?_
  refine xV_istore_n e_X0_loosen_8 (Nat.le_of_ble_eq_true rfl) rfl ?_
  refine xV_iconst (v := (nI 0)) e_X0_loosen_9 (by decide) ?_
  refine xV_istore e_X0_loosen_10 (Nat.le_of_ble_eq_true rfl) rfl ?_
  have q := P_X0_loosen_12 (L := L) (I := I) (f := f) (w1 := w1) (w2 := w2) (w3 := w3) (w4 := w4) (w5 := w5) (opn := cells &&& (f 9 ^^^ (-1))) (b := b) (cells := cells) hm 0 (Nat.zero_le _)
  rw [lsn_0] at q
  exact q
set_option maxHeartbeats 4000000 in
set_option maxRecDepth 100000 in
theorem C_X0_empty {f w1 w2 w3 w4 w5 : Nat → Int32} {h : Nat} (hm : MinS G T R h) {k : Nat} (hk : k < 12) : xCon G Y_X0_empty [.ref h, .int (nI k)] T R L (pm I h (f, w1, w2, w3, w4, w5)) (xD (none) T R L (pm I h (f, upd w1 k (nI 0), upd w2 k (nI 0), upd w3 k (nI 0), upd w4 k (nI 0), w5))) := by
  obtain ⟨m0, r0, r1, r2, r3, r4, s1, s2, s3, s4, s5⟩ := id hm
  refine xCon.mk (xl := [some (.ref h), some (.int (nI k))]) (by decide +kernel) (xle_r _) rfl (Nat.le_of_ble_eq_true rfl) rfl ?_
  refine xV_aload_n e_X0_empty_0 rfl ?_
  refine xV_getR e_X0_empty_1 f_X0_9 (by assumption) (by assumption) ?_
  refine xV_iload_n e_X0_empty_4 rfl ?_
  refine xV_iconst (v := (nI 0)) e_X0_empty_5 (by decide) ?_
  refine xV_cS3v e_X0_empty_6 c_X0_71 (C_X2_put1 s1 hk (by omega)) (Nat.le_of_ble_eq_true rfl) ⟨(Nat.le_of_ble_eq_true rfl), (Nat.le_of_ble_eq_true rfl)⟩ (xle_r _) (xle_r _) ?_
  refine xV_aload_n e_X0_empty_9 rfl ?_
  refine xV_getR e_X0_empty_10 f_X0_15 (by assumption) (by assumption) ?_
  refine xV_iload_n e_X0_empty_13 rfl ?_
  refine xV_iconst (v := (nI 0)) e_X0_empty_14 (by decide) ?_
  refine xV_cS3v e_X0_empty_15 c_X0_71 (C_X2_put2 s2 hk (by omega)) (Nat.le_of_ble_eq_true rfl) ⟨(Nat.le_of_ble_eq_true rfl), (Nat.le_of_ble_eq_true rfl)⟩ (xle_r _) (xle_r _) ?_
  refine xV_aload_n e_X0_empty_18 rfl ?_
  refine xV_getR e_X0_empty_19 f_X0_18 (by assumption) (by assumption) ?_
  refine xV_iload_n e_X0_empty_22 rfl ?_
  refine xV_iconst (v := (nI 0)) e_X0_empty_23 (by decide) ?_
  refine xV_cS3v e_X0_empty_24 c_X0_71 (C_X2_put3 s3 hk (by omega)) (Nat.le_of_ble_eq_true rfl) ⟨(Nat.le_of_ble_eq_true rfl), (Nat.le_of_ble_eq_true rfl)⟩ (xle_r _) (xle_r _) ?_
  refine xV_aload_n e_X0_empty_27 rfl ?_
  refine xV_getR e_X0_empty_28 f_X0_21 (by assumption) (by assumption) ?_
  refine xV_iload_n e_X0_empty_31 rfl ?_
  refine xV_iconst (v := (nI 0)) e_X0_empty_32 (by decide) ?_
  refine xV_cS3v e_X0_empty_33 c_X0_71 (C_X2_put4 s4 hk (by omega)) (Nat.le_of_ble_eq_true rfl) ⟨(Nat.le_of_ble_eq_true rfl), (Nat.le_of_ble_eq_true rfl)⟩ (xle_r _) (xle_r _) ?_
  exact xV_return e_X0_empty_36 rfl rfl ⟨rfl, rfl, rfl, rfl⟩
def clrF (f : Nat → Int32) : Nat → Int32 := upd (upd (upd (upd (upd (upd (upd f 5 (nI 1)) 6 (nI 0)) 7 (nI 0)) 8 (nI 0)) 9 (nI 0)) 10 (nI 0)) 11 (nI 0)
set_option maxHeartbeats 4000000 in
set_option maxRecDepth 100000 in
theorem P_X0_clear_2 {f w1 w2 w3 w4 w5 : Nat → Int32} {h : Nat} (hm : MinS G T R h)  : ∀ k, k ≤ 12 → xV G Y_X0_clear T (xD (none) T R L (pm I h (clrF f, zr w1 12, zr w2 12, zr w3 12, zr w4 12, w5))) 2 [some (.ref h), some (.int (nI k))] [] T R L (pm I h (f, zr w1 k, zr w2 k, zr w3 k, zr w4 k, w5)) := by
  obtain ⟨m0, r0, r1, r2, r3, r4, s1, s2, s3, s4, s5⟩ := id hm
  refine xloop 12 (fun k hk ih => ?_)
  refine xV_iload_n e_X0_clear_2 rfl ?_
  refine xV_bipush (v := (nI 12)) e_X0_clear_3 (by decide) ?_
  refine xV_icmp_geN e_X0_clear_5 (by omega) (by omega) (fun h5 => ?_) (fun h5 => ?_)
  · obtain rfl : k = 12 := by omega
    refine xV_aload_n e_X0_clear_19 rfl ?_
    refine xV_iconst (v := (nI 1)) e_X0_clear_20 (by decide) ?_
    refine xV_putF e_X0_clear_21 p_X0_27 (by assumption) ?_
    refine xV_aload_n e_X0_clear_24 rfl ?_
    refine xV_iconst (v := (nI 0)) e_X0_clear_25 (by decide) ?_
    refine xV_putF e_X0_clear_26 p_X0_35 (by assumption) ?_
    refine xV_aload_n e_X0_clear_29 rfl ?_
    refine xV_iconst (v := (nI 0)) e_X0_clear_30 (by decide) ?_
    refine xV_putF e_X0_clear_31 p_X0_38 (by assumption) ?_
    refine xV_aload_n e_X0_clear_34 rfl ?_
    refine xV_iconst (v := (nI 0)) e_X0_clear_35 (by decide) ?_
    refine xV_putF e_X0_clear_36 p_X0_41 (by assumption) ?_
    refine xV_aload_n e_X0_clear_39 rfl ?_
    refine xV_iconst (v := (nI 0)) e_X0_clear_40 (by decide) ?_
    refine xV_putF e_X0_clear_41 p_X0_44 (by assumption) ?_
    refine xV_aload_n e_X0_clear_44 rfl ?_
    refine xV_iconst (v := (nI 0)) e_X0_clear_45 (by decide) ?_
    refine xV_putF e_X0_clear_46 p_X0_47 (by assumption) ?_
    refine xV_aload_n e_X0_clear_49 rfl ?_
    refine xV_iconst (v := (nI 0)) e_X0_clear_50 (by decide) ?_
    refine xV_putF e_X0_clear_51 p_X0_50 (by assumption) ?_
    exact xV_return e_X0_clear_54 rfl rfl ⟨rfl, rfl, rfl, rfl⟩
  · refine xV_aload_n e_X0_clear_8 rfl ?_
    refine xV_iload_n e_X0_clear_9 rfl ?_
    refine xV_cV1v e_X0_clear_10 c_X0_31 (by assumption) (C_X0_empty hm (by omega)) (Nat.le_of_ble_eq_true rfl) ⟨(Nat.le_of_ble_eq_true rfl), (Nat.le_of_ble_eq_true rfl)⟩ (xle_r _) (xle_r _) ?_
    refine xV_iincN e_X0_clear_13 rfl rfl ?_
    refine xV_goto e_X0_clear_16 ?_
    have q := ih (by omega)
    rw [← zr_s w1 k, ← zr_s w2 k, ← zr_s w3 k, ← zr_s w4 k] at q
    exact q
set_option maxHeartbeats 4000000 in
set_option maxRecDepth 100000 in
theorem C_X0_clear {f w1 w2 w3 w4 w5 : Nat → Int32} {h : Nat} (hm : MinS G T R h)  : xCon G Y_X0_clear [.ref h] T R L (pm I h (f, w1, w2, w3, w4, w5)) (xD (none) T R L (pm I h (clrF f, zr w1 12, zr w2 12, zr w3 12, zr w4 12, w5))) := by
  obtain ⟨m0, r0, r1, r2, r3, r4, s1, s2, s3, s4, s5⟩ := id hm
  refine xCon.mk (xl := [some (.ref h), none]) (by decide +kernel) (xle_r _) rfl (Nat.le_of_ble_eq_true rfl) rfl ?_
  refine xV_iconst (v := (nI 0)) e_X0_clear_0 (by decide) ?_
  refine xV_istore_n e_X0_clear_1 (Nat.le_of_ble_eq_true rfl) rfl ?_
  have q := P_X0_clear_2 (L := L) (I := I) (f := f) (w1 := w1) (w2 := w2) (w3 := w3) (w4 := w4) (w5 := w5) hm 0 (Nat.zero_le _)
  rw [zr_0, zr_0, zr_0, zr_0] at q
  exact q
set_option maxHeartbeats 4000000 in
set_option maxRecDepth 100000 in
theorem C_X0_addMonk {f w1 w2 w3 w4 w5 : Nat → Int32} {h : Nat} (hm : MinS G T R h) {mo : Nat} (hmo : f 6 = nI mo) (hm4 : mo < 4) {c s : Int32} : xCon G Y_X0_addMonk [.ref h, .int c, .int s] T R L (pm I h (f, w1, w2, w3, w4, w5)) (xD (none) T R L (pm I h (upd (upd f 7 (f 7 ||| (s <<< (nI mo &&& 31)))) 6 (nI (mo + 1)), w1, w2, w3, w4, upd w5 mo c))) := by
  obtain ⟨m0, r0, r1, r2, r3, r4, s1, s2, s3, s4, s5⟩ := id hm
  refine xCon.mk (xl := [some (.ref h), some (.int c), some (.int s)]) (by decide +kernel) (xle_r _) rfl (Nat.le_of_ble_eq_true rfl) rfl ?_
  refine xV_aload_n e_X0_addMonk_0 rfl ?_
  refine xV_getR e_X0_addMonk_1 f_X0_24 (by assumption) (by assumption) ?_
  refine xV_aload_n e_X0_addMonk_4 rfl ?_
  refine xV_getF e_X0_addMonk_5 f_X0_35 (by assumption) ?_
  rw [hmo]
  refine xV_iload_n e_X0_addMonk_8 rfl ?_
  refine xV_cS3v e_X0_addMonk_9 c_X0_71 (C_X2_put5 s5 (by omega) (by omega)) (Nat.le_of_ble_eq_true rfl) ⟨(Nat.le_of_ble_eq_true rfl), (Nat.le_of_ble_eq_true rfl)⟩ (xle_r _) (xle_r _) ?_
  refine xV_aload_n e_X0_addMonk_12 rfl ?_
  refine xV_dup e_X0_addMonk_13 rfl ?_
  refine xV_getF e_X0_addMonk_14 f_X0_38 (by assumption) ?_
  refine xV_iload_n e_X0_addMonk_17 rfl ?_
  refine xV_aload_n e_X0_addMonk_18 rfl ?_
  refine xV_getF e_X0_addMonk_19 f_X0_35 (by assumption) ?_
  rw [hmo]
  refine xV_ishl e_X0_addMonk_22 ?_
  refine xV_ior e_X0_addMonk_23 ?_
  refine xV_putF e_X0_addMonk_24 p_X0_38 (by assumption) ?_
  refine xV_aload_n e_X0_addMonk_27 rfl ?_
  refine xV_dup e_X0_addMonk_28 rfl ?_
  refine xV_getF e_X0_addMonk_29 f_X0_35 (by assumption) ?_
  refine xV_iconst (v := (nI 1)) e_X0_addMonk_32 (by decide) ?_
  rw [show upd f 7 (f 7 ||| (s <<< (nI mo &&& 31))) 6 = nI mo from hmo]
  refine xV_iaddN e_X0_addMonk_33 ?_
  refine xV_putF e_X0_addMonk_34 p_X0_35 (by assumption) ?_
  exact xV_return e_X0_addMonk_37 rfl rfl ⟨rfl, rfl, rfl, rfl⟩
theorem cpy_in {f g : Nat → Int32} {n k : Nat} (h : k < n) (hn : n < 2 ^ 31) : va_cpy f g (nI 0).toNatClampNeg (nI 0).toNatClampNeg (nI n).toNatClampNeg k = f k := by
  rw [nI_clamp (by decide), nI_clamp hn]
  simp [va_cpy, h]
theorem xV_acopy1 {Y : xY} {Tb : xT} {o : xO} {pc pc' idx h h2 n : Nat} {xl : List (Option Value)} {st : List Value} {f w1 w2 w3 w4 w5 : Nat → Int32} (hd : decode Y.2.1 pc = .ok (.invokestatic idx, 3) ∧ pc + 3 = pc') (hw : (Cond.methodLink Y.1.cls idx arraycopyName ∈ xW ∧ Cond.static arraycopyName ∈ xW ∧ Cond.initialized "java/lang/System" ∈ xW) ∧ Cond.native arraycopyName ∈ xW) (hs0 : xSh G T (h2 + 1) = (4, n)) (hs1 : xSh G T (h + 1) = (4, n)) (hn : n < 2 ^ 31) (hx : h2 + 6 ≤ h ∨ h + 6 ≤ h2)
    (hfr : 1 ≤ Y.2.2.2.2.1) (hlo : (st.map fun v => v.category).sum + (nativeFrameWords "java/lang/System" "arraycopy" 5 + 11) ≤ Y.2.2.2.2.2) (k : xV G Y Tb o pc' xl st T R L (pm I h (f, I (h2 + 1), w2, w3, w4, w5))) : xV G Y Tb o pc xl (.int (nI n) :: .int (nI 0) :: .ref (h + 1) :: .int (nI 0) :: .ref (h2 + 1) :: st) T R L (pm I h (f, w1, w2, w3, w4, w5)) := by
  have z : (nI 0).toNatClampNeg = 0 := nI_clamp (by decide)
  have zn : (nI n).toNatClampNeg = n := nI_clamp hn
  refine xV_acopy hd hw.1 hw.2 hs0 hs1 (nI_pos (by decide)) (nI_pos (by decide)) (nI_pos hn) (by rw [z, zn]; omega) (by rw [z, zn]; omega) hfr hlo ?_
  rw [pm_va1]
  refine xV_congI (fun a q hv => ?_) k
  refine pm_cases (h := h) (fun a => xvl G T a q → pm I h (f, va_cpy (pm I h (f, w1, w2, w3, w4, w5) (h2 + 1)) (pm I h (f, w1, w2, w3, w4, w5) (h + 1)) (nI 0).toNatClampNeg (nI 0).toNatClampNeg (nI n).toNatClampNeg, w2, w3, w4, w5) a q = pm I h (f, I (h2 + 1), w2, w3, w4, w5) a q) ?_ ?_ ?_ ?_ ?_ ?_ (fun ha _ => by rw [pm_o ha, pm_o ha]) hv
  · intro _; rw [pm_0, pm_0]
  · intro hv
    refine Eq.trans (congrFun pm_1 q) (Eq.trans ?_ (congrFun pm_1 q).symm)
    show va_cpy (pm I h (f, w1, w2, w3, w4, w5) (h2 + 1)) (pm I h (f, w1, w2, w3, w4, w5) (h + 1)) (nI 0).toNatClampNeg (nI 0).toNatClampNeg (nI n).toNatClampNeg q = I (h2 + 1) q
    rw [pm_o (a := h2 + 1) (by omega)]
    refine cpy_in ?_ hn
    unfold xvl at hv
    rw [hs1] at hv
    simpa using hv
  · intro _; rw [pm_2, pm_2]
  · intro _; rw [pm_3, pm_3]
  · intro _; rw [pm_4, pm_4]
  · intro _; rw [pm_5, pm_5]
theorem xV_acopy2 {Y : xY} {Tb : xT} {o : xO} {pc pc' idx h h2 n : Nat} {xl : List (Option Value)} {st : List Value} {f w1 w2 w3 w4 w5 : Nat → Int32} (hd : decode Y.2.1 pc = .ok (.invokestatic idx, 3) ∧ pc + 3 = pc') (hw : (Cond.methodLink Y.1.cls idx arraycopyName ∈ xW ∧ Cond.static arraycopyName ∈ xW ∧ Cond.initialized "java/lang/System" ∈ xW) ∧ Cond.native arraycopyName ∈ xW) (hs0 : xSh G T (h2 + 2) = (4, n)) (hs1 : xSh G T (h + 2) = (4, n)) (hn : n < 2 ^ 31) (hx : h2 + 6 ≤ h ∨ h + 6 ≤ h2)
    (hfr : 1 ≤ Y.2.2.2.2.1) (hlo : (st.map fun v => v.category).sum + (nativeFrameWords "java/lang/System" "arraycopy" 5 + 11) ≤ Y.2.2.2.2.2) (k : xV G Y Tb o pc' xl st T R L (pm I h (f, w1, I (h2 + 2), w3, w4, w5))) : xV G Y Tb o pc xl (.int (nI n) :: .int (nI 0) :: .ref (h + 2) :: .int (nI 0) :: .ref (h2 + 2) :: st) T R L (pm I h (f, w1, w2, w3, w4, w5)) := by
  have z : (nI 0).toNatClampNeg = 0 := nI_clamp (by decide)
  have zn : (nI n).toNatClampNeg = n := nI_clamp hn
  refine xV_acopy hd hw.1 hw.2 hs0 hs1 (nI_pos (by decide)) (nI_pos (by decide)) (nI_pos hn) (by rw [z, zn]; omega) (by rw [z, zn]; omega) hfr hlo ?_
  rw [pm_va2]
  refine xV_congI (fun a q hv => ?_) k
  refine pm_cases (h := h) (fun a => xvl G T a q → pm I h (f, w1, va_cpy (pm I h (f, w1, w2, w3, w4, w5) (h2 + 2)) (pm I h (f, w1, w2, w3, w4, w5) (h + 2)) (nI 0).toNatClampNeg (nI 0).toNatClampNeg (nI n).toNatClampNeg, w3, w4, w5) a q = pm I h (f, w1, I (h2 + 2), w3, w4, w5) a q) ?_ ?_ ?_ ?_ ?_ ?_ (fun ha _ => by rw [pm_o ha, pm_o ha]) hv
  · intro _; rw [pm_0, pm_0]
  · intro _; rw [pm_1, pm_1]
  · intro hv
    refine Eq.trans (congrFun pm_2 q) (Eq.trans ?_ (congrFun pm_2 q).symm)
    show va_cpy (pm I h (f, w1, w2, w3, w4, w5) (h2 + 2)) (pm I h (f, w1, w2, w3, w4, w5) (h + 2)) (nI 0).toNatClampNeg (nI 0).toNatClampNeg (nI n).toNatClampNeg q = I (h2 + 2) q
    rw [pm_o (a := h2 + 2) (by omega)]
    refine cpy_in ?_ hn
    unfold xvl at hv
    rw [hs1] at hv
    simpa using hv
  · intro _; rw [pm_3, pm_3]
  · intro _; rw [pm_4, pm_4]
  · intro _; rw [pm_5, pm_5]
theorem xV_acopy3 {Y : xY} {Tb : xT} {o : xO} {pc pc' idx h h2 n : Nat} {xl : List (Option Value)} {st : List Value} {f w1 w2 w3 w4 w5 : Nat → Int32} (hd : decode Y.2.1 pc = .ok (.invokestatic idx, 3) ∧ pc + 3 = pc') (hw : (Cond.methodLink Y.1.cls idx arraycopyName ∈ xW ∧ Cond.static arraycopyName ∈ xW ∧ Cond.initialized "java/lang/System" ∈ xW) ∧ Cond.native arraycopyName ∈ xW) (hs0 : xSh G T (h2 + 3) = (4, n)) (hs1 : xSh G T (h + 3) = (4, n)) (hn : n < 2 ^ 31) (hx : h2 + 6 ≤ h ∨ h + 6 ≤ h2)
    (hfr : 1 ≤ Y.2.2.2.2.1) (hlo : (st.map fun v => v.category).sum + (nativeFrameWords "java/lang/System" "arraycopy" 5 + 11) ≤ Y.2.2.2.2.2) (k : xV G Y Tb o pc' xl st T R L (pm I h (f, w1, w2, I (h2 + 3), w4, w5))) : xV G Y Tb o pc xl (.int (nI n) :: .int (nI 0) :: .ref (h + 3) :: .int (nI 0) :: .ref (h2 + 3) :: st) T R L (pm I h (f, w1, w2, w3, w4, w5)) := by
  have z : (nI 0).toNatClampNeg = 0 := nI_clamp (by decide)
  have zn : (nI n).toNatClampNeg = n := nI_clamp hn
  refine xV_acopy hd hw.1 hw.2 hs0 hs1 (nI_pos (by decide)) (nI_pos (by decide)) (nI_pos hn) (by rw [z, zn]; omega) (by rw [z, zn]; omega) hfr hlo ?_
  rw [pm_va3]
  refine xV_congI (fun a q hv => ?_) k
  refine pm_cases (h := h) (fun a => xvl G T a q → pm I h (f, w1, w2, va_cpy (pm I h (f, w1, w2, w3, w4, w5) (h2 + 3)) (pm I h (f, w1, w2, w3, w4, w5) (h + 3)) (nI 0).toNatClampNeg (nI 0).toNatClampNeg (nI n).toNatClampNeg, w4, w5) a q = pm I h (f, w1, w2, I (h2 + 3), w4, w5) a q) ?_ ?_ ?_ ?_ ?_ ?_ (fun ha _ => by rw [pm_o ha, pm_o ha]) hv
  · intro _; rw [pm_0, pm_0]
  · intro _; rw [pm_1, pm_1]
  · intro _; rw [pm_2, pm_2]
  · intro hv
    refine Eq.trans (congrFun pm_3 q) (Eq.trans ?_ (congrFun pm_3 q).symm)
    show va_cpy (pm I h (f, w1, w2, w3, w4, w5) (h2 + 3)) (pm I h (f, w1, w2, w3, w4, w5) (h + 3)) (nI 0).toNatClampNeg (nI 0).toNatClampNeg (nI n).toNatClampNeg q = I (h2 + 3) q
    rw [pm_o (a := h2 + 3) (by omega)]
    refine cpy_in ?_ hn
    unfold xvl at hv
    rw [hs1] at hv
    simpa using hv
  · intro _; rw [pm_4, pm_4]
  · intro _; rw [pm_5, pm_5]
theorem xV_acopy4 {Y : xY} {Tb : xT} {o : xO} {pc pc' idx h h2 n : Nat} {xl : List (Option Value)} {st : List Value} {f w1 w2 w3 w4 w5 : Nat → Int32} (hd : decode Y.2.1 pc = .ok (.invokestatic idx, 3) ∧ pc + 3 = pc') (hw : (Cond.methodLink Y.1.cls idx arraycopyName ∈ xW ∧ Cond.static arraycopyName ∈ xW ∧ Cond.initialized "java/lang/System" ∈ xW) ∧ Cond.native arraycopyName ∈ xW) (hs0 : xSh G T (h2 + 4) = (4, n)) (hs1 : xSh G T (h + 4) = (4, n)) (hn : n < 2 ^ 31) (hx : h2 + 6 ≤ h ∨ h + 6 ≤ h2)
    (hfr : 1 ≤ Y.2.2.2.2.1) (hlo : (st.map fun v => v.category).sum + (nativeFrameWords "java/lang/System" "arraycopy" 5 + 11) ≤ Y.2.2.2.2.2) (k : xV G Y Tb o pc' xl st T R L (pm I h (f, w1, w2, w3, I (h2 + 4), w5))) : xV G Y Tb o pc xl (.int (nI n) :: .int (nI 0) :: .ref (h + 4) :: .int (nI 0) :: .ref (h2 + 4) :: st) T R L (pm I h (f, w1, w2, w3, w4, w5)) := by
  have z : (nI 0).toNatClampNeg = 0 := nI_clamp (by decide)
  have zn : (nI n).toNatClampNeg = n := nI_clamp hn
  refine xV_acopy hd hw.1 hw.2 hs0 hs1 (nI_pos (by decide)) (nI_pos (by decide)) (nI_pos hn) (by rw [z, zn]; omega) (by rw [z, zn]; omega) hfr hlo ?_
  rw [pm_va4]
  refine xV_congI (fun a q hv => ?_) k
  refine pm_cases (h := h) (fun a => xvl G T a q → pm I h (f, w1, w2, w3, va_cpy (pm I h (f, w1, w2, w3, w4, w5) (h2 + 4)) (pm I h (f, w1, w2, w3, w4, w5) (h + 4)) (nI 0).toNatClampNeg (nI 0).toNatClampNeg (nI n).toNatClampNeg, w5) a q = pm I h (f, w1, w2, w3, I (h2 + 4), w5) a q) ?_ ?_ ?_ ?_ ?_ ?_ (fun ha _ => by rw [pm_o ha, pm_o ha]) hv
  · intro _; rw [pm_0, pm_0]
  · intro _; rw [pm_1, pm_1]
  · intro _; rw [pm_2, pm_2]
  · intro _; rw [pm_3, pm_3]
  · intro hv
    refine Eq.trans (congrFun pm_4 q) (Eq.trans ?_ (congrFun pm_4 q).symm)
    show va_cpy (pm I h (f, w1, w2, w3, w4, w5) (h2 + 4)) (pm I h (f, w1, w2, w3, w4, w5) (h + 4)) (nI 0).toNatClampNeg (nI 0).toNatClampNeg (nI n).toNatClampNeg q = I (h2 + 4) q
    rw [pm_o (a := h2 + 4) (by omega)]
    refine cpy_in ?_ hn
    unfold xvl at hv
    rw [hs1] at hv
    simpa using hv
  · intro _; rw [pm_5, pm_5]
theorem xV_acopy5 {Y : xY} {Tb : xT} {o : xO} {pc pc' idx h h2 n : Nat} {xl : List (Option Value)} {st : List Value} {f w1 w2 w3 w4 w5 : Nat → Int32} (hd : decode Y.2.1 pc = .ok (.invokestatic idx, 3) ∧ pc + 3 = pc') (hw : (Cond.methodLink Y.1.cls idx arraycopyName ∈ xW ∧ Cond.static arraycopyName ∈ xW ∧ Cond.initialized "java/lang/System" ∈ xW) ∧ Cond.native arraycopyName ∈ xW) (hs0 : xSh G T (h2 + 5) = (4, n)) (hs1 : xSh G T (h + 5) = (4, n)) (hn : n < 2 ^ 31) (hx : h2 + 6 ≤ h ∨ h + 6 ≤ h2)
    (hfr : 1 ≤ Y.2.2.2.2.1) (hlo : (st.map fun v => v.category).sum + (nativeFrameWords "java/lang/System" "arraycopy" 5 + 11) ≤ Y.2.2.2.2.2) (k : xV G Y Tb o pc' xl st T R L (pm I h (f, w1, w2, w3, w4, I (h2 + 5)))) : xV G Y Tb o pc xl (.int (nI n) :: .int (nI 0) :: .ref (h + 5) :: .int (nI 0) :: .ref (h2 + 5) :: st) T R L (pm I h (f, w1, w2, w3, w4, w5)) := by
  have z : (nI 0).toNatClampNeg = 0 := nI_clamp (by decide)
  have zn : (nI n).toNatClampNeg = n := nI_clamp hn
  refine xV_acopy hd hw.1 hw.2 hs0 hs1 (nI_pos (by decide)) (nI_pos (by decide)) (nI_pos hn) (by rw [z, zn]; omega) (by rw [z, zn]; omega) hfr hlo ?_
  rw [pm_va5]
  refine xV_congI (fun a q hv => ?_) k
  refine pm_cases (h := h) (fun a => xvl G T a q → pm I h (f, w1, w2, w3, w4, va_cpy (pm I h (f, w1, w2, w3, w4, w5) (h2 + 5)) (pm I h (f, w1, w2, w3, w4, w5) (h + 5)) (nI 0).toNatClampNeg (nI 0).toNatClampNeg (nI n).toNatClampNeg) a q = pm I h (f, w1, w2, w3, w4, I (h2 + 5)) a q) ?_ ?_ ?_ ?_ ?_ ?_ (fun ha _ => by rw [pm_o ha, pm_o ha]) hv
  · intro _; rw [pm_0, pm_0]
  · intro _; rw [pm_1, pm_1]
  · intro _; rw [pm_2, pm_2]
  · intro _; rw [pm_3, pm_3]
  · intro _; rw [pm_4, pm_4]
  · intro hv
    refine Eq.trans (congrFun pm_5 q) (Eq.trans ?_ (congrFun pm_5 q).symm)
    show va_cpy (pm I h (f, w1, w2, w3, w4, w5) (h2 + 5)) (pm I h (f, w1, w2, w3, w4, w5) (h + 5)) (nI 0).toNatClampNeg (nI 0).toNatClampNeg (nI n).toNatClampNeg q = I (h2 + 5) q
    rw [pm_o (a := h2 + 5) (by omega)]
    refine cpy_in ?_ hn
    unfold xvl at hv
    rw [hs1] at hv
    simpa using hv

set_option maxHeartbeats 4000000 in
set_option maxRecDepth 100000 in
theorem C_X0_take0 {f w1 w2 w3 w4 w5 : Nat → Int32} {h : Nat} {h2 : Nat} (hm : MinS G T R h) (hm2 : MinS G T R h2) (hx : h2 + 6 ≤ h ∨ h + 6 ≤ h2) : xCon G Y_X0_take [.ref h, .ref h2] T R L (pm I h (f, w1, w2, w3, w4, w5)) (xD (none) T R L (pm I h (mS I h2))) := by
  obtain ⟨m0, r0, r1, r2, r3, r4, s1, s2, s3, s4, s5⟩ := id hm
  obtain ⟨n0, q0, q1, q2, q3, q4, t1, t2, t3, t4, t5⟩ := id hm2
  refine xCon.mk (xl := [some (.ref h), some (.ref h2)]) (by decide +kernel) (xle_r _) rfl (Nat.le_of_ble_eq_true rfl) rfl ?_
  refine xV_aload_n e_X0_take_0 rfl ?_
  refine xV_ifnonnull e_X0_take_1 ?_
  refine xV_aload_n e_X0_take_5 rfl ?_
  refine xV_getR e_X0_take_6 f_X0_9 (by assumption) (by assumption) ?_
  refine xV_iconst (v := (nI 0)) e_X0_take_9 (by decide) ?_
  refine xV_aload_n e_X0_take_10 rfl ?_
  refine xV_getR e_X0_take_11 f_X0_9 (by assumption) (by assumption) ?_
  refine xV_iconst (v := (nI 0)) e_X0_take_14 (by decide) ?_
  refine xV_bipush (v := (nI 12)) e_X0_take_15 (by decide) ?_
  refine xV_acopy1 e_X0_take_17 c_X0_53 t1 s1 (by omega) hx (Nat.le_of_ble_eq_true rfl) (Nat.le_of_ble_eq_true rfl) ?_
  refine xV_aload_n e_X0_take_20 rfl ?_
  refine xV_getR e_X0_take_21 f_X0_15 (by assumption) (by assumption) ?_
  refine xV_iconst (v := (nI 0)) e_X0_take_24 (by decide) ?_
  refine xV_aload_n e_X0_take_25 rfl ?_
  refine xV_getR e_X0_take_26 f_X0_15 (by assumption) (by assumption) ?_
  refine xV_iconst (v := (nI 0)) e_X0_take_29 (by decide) ?_
  refine xV_bipush (v := (nI 12)) e_X0_take_30 (by decide) ?_
  refine xV_acopy2 e_X0_take_32 c_X0_53 t2 s2 (by omega) hx (Nat.le_of_ble_eq_true rfl) (Nat.le_of_ble_eq_true rfl) ?_
  refine xV_aload_n e_X0_take_35 rfl ?_
  refine xV_getR e_X0_take_36 f_X0_18 (by assumption) (by assumption) ?_
  refine xV_iconst (v := (nI 0)) e_X0_take_39 (by decide) ?_
  refine xV_aload_n e_X0_take_40 rfl ?_
  refine xV_getR e_X0_take_41 f_X0_18 (by assumption) (by assumption) ?_
  refine xV_iconst (v := (nI 0)) e_X0_take_44 (by decide) ?_
  refine xV_bipush (v := (nI 12)) e_X0_take_45 (by decide) ?_
  refine xV_acopy3 e_X0_take_47 c_X0_53 t3 s3 (by omega) hx (Nat.le_of_ble_eq_true rfl) (Nat.le_of_ble_eq_true rfl) ?_
  refine xV_aload_n e_X0_take_50 rfl ?_
  refine xV_getR e_X0_take_51 f_X0_21 (by assumption) (by assumption) ?_
  refine xV_iconst (v := (nI 0)) e_X0_take_54 (by decide) ?_
  refine xV_aload_n e_X0_take_55 rfl ?_
  refine xV_getR e_X0_take_56 f_X0_21 (by assumption) (by assumption) ?_
  refine xV_iconst (v := (nI 0)) e_X0_take_59 (by decide) ?_
  refine xV_bipush (v := (nI 12)) e_X0_take_60 (by decide) ?_
  refine xV_acopy4 e_X0_take_62 c_X0_53 t4 s4 (by omega) hx (Nat.le_of_ble_eq_true rfl) (Nat.le_of_ble_eq_true rfl) ?_
  refine xV_aload_n e_X0_take_65 rfl ?_
  refine xV_getR e_X0_take_66 f_X0_24 (by assumption) (by assumption) ?_
  refine xV_iconst (v := (nI 0)) e_X0_take_69 (by decide) ?_
  refine xV_aload_n e_X0_take_70 rfl ?_
  refine xV_getR e_X0_take_71 f_X0_24 (by assumption) (by assumption) ?_
  refine xV_iconst (v := (nI 0)) e_X0_take_74 (by decide) ?_
  refine xV_iconst (v := (nI 4)) e_X0_take_75 (by decide) ?_
  refine xV_acopy5 e_X0_take_76 c_X0_53 t5 s5 (by omega) hx (Nat.le_of_ble_eq_true rfl) (Nat.le_of_ble_eq_true rfl) ?_
  refine xV_aload_n e_X0_take_79 rfl ?_
  refine xV_aload_n e_X0_take_80 rfl ?_
  refine xV_getI e_X0_take_81 f_X0_27 (by assumption) ?_
  rw [pm_o (by omega)]
  refine xV_putF e_X0_take_84 p_X0_27 (by assumption) ?_
  refine xV_aload_n e_X0_take_87 rfl ?_
  refine xV_aload_n e_X0_take_88 rfl ?_
  refine xV_getI e_X0_take_89 f_X0_35 (by assumption) ?_
  rw [pm_o (by omega)]
  refine xV_putF e_X0_take_92 p_X0_35 (by assumption) ?_
  refine xV_aload_n e_X0_take_95 rfl ?_
  refine xV_aload_n e_X0_take_96 rfl ?_
  refine xV_getI e_X0_take_97 f_X0_38 (by assumption) ?_
  rw [pm_o (by omega)]
  refine xV_putF e_X0_take_100 p_X0_38 (by assumption) ?_
  refine xV_aload_n e_X0_take_103 rfl ?_
  refine xV_aload_n e_X0_take_104 rfl ?_
  refine xV_getI e_X0_take_105 f_X0_41 (by assumption) ?_
  rw [pm_o (by omega)]
  refine xV_putF e_X0_take_108 p_X0_41 (by assumption) ?_
  refine xV_aload_n e_X0_take_111 rfl ?_
  refine xV_aload_n e_X0_take_112 rfl ?_
  refine xV_getI e_X0_take_113 f_X0_44 (by assumption) ?_
  rw [pm_o (by omega)]
  refine xV_putF e_X0_take_116 p_X0_44 (by assumption) ?_
  refine xV_aload_n e_X0_take_119 rfl ?_
  refine xV_aload_n e_X0_take_120 rfl ?_
  refine xV_getI e_X0_take_121 f_X0_47 (by assumption) ?_
  rw [pm_o (by omega)]
  refine xV_putF e_X0_take_124 p_X0_47 (by assumption) ?_
  refine xV_aload_n e_X0_take_127 rfl ?_
  refine xV_aload_n e_X0_take_128 rfl ?_
  refine xV_getI e_X0_take_129 f_X0_50 (by assumption) ?_
  rw [pm_o (by omega)]
  refine xV_putF e_X0_take_132 p_X0_50 (by assumption) ?_
  refine xV_congI (I' := pm I h (mS I h2)) (fun a q hv => ?_) ?_
  · refine pm_cases (h := h) (fun a => xvl G T a q → pm I h _ a q = pm I h (mS I h2) a q) ?_ ?_ ?_ ?_ ?_ ?_ (fun ha _ => by rw [pm_o ha, pm_o ha]) hv
    · intro hv
      rw [pm_0, pm_0]
      unfold xvl at hv
      rw [m0] at hv
      have hk : 5 ≤ q ∧ q < 12 := by
        rcases hv with ⟨_, q1, q2⟩ | ⟨q1, _⟩
        · refine ⟨?_, q1⟩
          rcases Nat.lt_or_ge q 5 with z | z
          · have z2 : xfk 0 q = 2 := by
              show (if q < 5 then 2 else 0) = 2
              rw [if_pos z]
            rw [z2] at q2
            cases q2
          · exact z
        · omega
      have e : q = 5 ∨ q = 6 ∨ q = 7 ∨ q = 8 ∨ q = 9 ∨ q = 10 ∨ q = 11 := by omega
      rcases e with rfl | rfl | rfl | rfl | rfl | rfl | rfl <;> rfl
    · intro _; rw [pm_1, pm_1]; rfl
    · intro _; rw [pm_2, pm_2]; rfl
    · intro _; rw [pm_3, pm_3]; rfl
    · intro _; rw [pm_4, pm_4]; rfl
    · intro _; rw [pm_5, pm_5]; rfl
  exact xV_return e_X0_take_135 rfl rfl ⟨rfl, rfl, rfl, rfl⟩
theorem C_X0_take {h h2 : Nat} (hm : MinS G T R h) (hm2 : MinS G T R h2) (hx : h2 + 6 ≤ h ∨ h + 6 ≤ h2) : xCon G Y_X0_take [.ref h, .ref h2] T R L I (xD none T R L (pm I h (mS I h2))) := by
  have q := C_X0_take0 (L := L) (I := I) (f := (mS I h).1) (w1 := (mS I h).2.1) (w2 := (mS I h).2.2.1) (w3 := (mS I h).2.2.2.1) (w4 := (mS I h).2.2.2.2.1) (w5 := (mS I h).2.2.2.2.2) hm hm2 hx
  have e : pm I h ((mS I h).1, (mS I h).2.1, (mS I h).2.2.1, (mS I h).2.2.2.1, (mS I h).2.2.2.2.1, (mS I h).2.2.2.2.2) = I := pm_self
  rwa [e] at q
end XMINE
end
section
/-! MINE: prayers, falls, waves, days -/
section XMINB
variable {G : xG} {T : xT} {R : xR} {L : xL} {I : xI}
def plN (w : Nat → Int32) (m : Nat) : Nat := (w m).toNatClampNeg
def WP (w : Nat → Int32) (mo : Nat) : Prop := ∀ m, m < mo → w m = nI (plN w m) ∧ plN w m < 12
def vForce (mo : Nat) (f w5 : Nat → Int32) (mi : Nat) : Int32 :=
  if hs (vLiv f) (nI mi) = true then
    (if (vOn w5 ((nI 1 <<< (nI (plN w5 mi) &&& 31)) ||| xnear (plN w5 mi)) mo &&& (if hs (f 7) (nI mi) = true then f 7 ^^^ (-1) else f 7) &&& vLiv f) = 0 then nI 1 else nI 2)
  else nI 0
def gLb (mo : Nat) (S : xS) (mi : Nat) : xS :=
  (S.1, S.2.1, lsn (xnear (plN S.2.2.2.2.2 mi) &&& (S.1 9 ^^^ (-1))) (vForce mo S.1 S.2.2.2.2.2 mi) (lsn ((nI 1 <<< (nI (plN S.2.2.2.2.2 mi) &&& 31)) &&& (S.1 9 ^^^ (-1))) (nI 2 * vForce mo S.1 S.2.2.2.2.2 mi) S.2.2.1 12) 12, S.2.2.2.1,
    (if hs (S.1 9) (nI (plN S.2.2.2.2.2 mi)) = true then S.2.2.2.2.1 else upd S.2.2.2.2.1 (plN S.2.2.2.2.2 mi) (S.2.2.2.2.1 (plN S.2.2.2.2.2 mi) + nI 1)), S.2.2.2.2.2)
def zd (due : Int32) (w : Nat → Int32) (n : Nat) : Nat → Int32 := fun c => if c < n ∧ hs due (nI c) = true then nI 0 else w c
theorem zd_0 (due : Int32) (w : Nat → Int32) : zd due w 0 = w := by funext c; simp [zd]
theorem zd_at (due : Int32) (w : Nat → Int32) (n : Nat) : zd due w n n = w n := by simp [zd]
theorem zd_t {due : Int32} {w : Nat → Int32} {n : Nat} (h : hs due (nI n) = true) : zd due w (n + 1) = upd (zd due w n) n (nI 0) := by
  funext c
  by_cases e : c = n
  · subst e; simp [zd, upd, h]
  · have : c < n + 1 ↔ c < n := by omega
    simp [zd, upd, e, this]
theorem zd_f {due : Int32} {w : Nat → Int32} {n : Nat} (h : hs due (nI n) = false) : zd due w (n + 1) = zd due w n := by
  funext c
  by_cases e : c = n
  · subst e; simp [zd, h]
  · have : c < n + 1 ↔ c < n := by omega
    simp [zd, this]
def vTk (due : Int32) (w1 : Nat → Int32) (t0 : Int32) : Nat → Int32
  | 0 => t0
  | n + 1 => if hs due (nI n) = true then vTk due w1 t0 n + w1 n else vTk due w1 t0 n
theorem vTk_t {due t0 : Int32} {w1 : Nat → Int32} {n : Nat} (h : hs due (nI n) = true) : vTk due w1 t0 (n + 1) = vTk due w1 t0 n + w1 n := by rw [vTk, if_pos h]
theorem vTk_f {due t0 : Int32} {w1 : Nat → Int32} {n : Nat} (h : hs due (nI n) = false) : vTk due w1 t0 (n + 1) = vTk due w1 t0 n := by rw [vTk, if_neg (by rw [h]; decide)]
def vBl (due fal : Int32) (w2 : Nat → Int32) : Nat → Nat → Int32
  | 0 => w2
  | n + 1 => if hs due (nI n) = true then lsn (xnear n &&& (fal ^^^ (-1))) (nI 1) (upd (vBl due fal w2 n) n (nI 0)) 12 else vBl due fal w2 n
theorem vBl_t {due fal : Int32} {w2 : Nat → Int32} {n : Nat} (h : hs due (nI n) = true) : vBl due fal w2 (n + 1) = lsn (xnear n &&& (fal ^^^ (-1))) (nI 1) (upd (vBl due fal w2 n) n (nI 0)) 12 := by rw [vBl, if_pos h]
theorem vBl_f {due fal : Int32} {w2 : Nat → Int32} {n : Nat} (h : hs due (nI n) = false) : vBl due fal w2 (n + 1) = vBl due fal w2 n := by rw [vBl, if_neg (by rw [h]; decide)]
def fFl (mo : Nat) (f w5 : Nat → Int32) (due : Int32) : Nat → Int32 := upd (upd f 9 (f 9 ||| due)) 8 (f 8 ||| vOn w5 due mo)
def gFell (mo : Nat) (S : xS) (due : Int32) : xS :=
  (upd (fFl mo S.1 S.2.2.2.2.2 due) 10 (vTk due S.2.1 (S.1 10) 12), zd due S.2.1 12, vBl due (S.1 9 ||| due) S.2.2.1 12, zd due S.2.2.2.1 12, zd due S.2.2.2.2.1 12, S.2.2.2.2.2)
def gDue (S : xS) : Int32 := vDue S.1 S.2.2.1 S.2.2.2.1 12
def wv (mo : Nat) : Nat → xS → xS
  | 0, S => S
  | n + 1, S => if gDue S = 0 then S else wv mo n (gFell mo S (gDue S))
theorem wv_z {mo n : Nat} {S : xS} (h : gDue S = 0) : wv mo n S = S := by
  cases n with
  | zero => rfl
  | succ n => rw [wv, if_pos h]
theorem wv_s {mo k : Nat} {S : xS} (hk : k < 12) (h : ¬ gDue S = 0) : wv mo (12 - k) S = wv mo (12 - (k + 1)) (gFell mo S (gDue S)) := by
  obtain ⟨n, hn⟩ : ∃ n, 12 - k = n + 1 := ⟨11 - k, by omega⟩
  rw [hn, wv, if_neg h, show n = 12 - (k + 1) by omega]
def gPr (mo : Nat) (S : xS) (mi : Nat) : xS := wv mo 12 (gLb mo S mi)
def vPr (mo : Nat) (S : xS) (mi : Nat) : Int32 := (gPr mo S mi).1 9 &&& (S.1 9 ^^^ (-1))
def gPa (mo : Nat) (set : Int32) (S : xS) : Nat → xS
  | 0 => S
  | n + 1 => if (hs set (nI n) && bLiv (gPa mo set S n).1 (nI n)) = true then gPr mo (gPa mo set S n) n else gPa mo set S n
theorem gPa_f {mo n : Nat} {set : Int32} {S : xS} (h : hs set (nI n) = false ∨ bLiv (gPa mo set S n).1 (nI n) = false) : gPa mo set S (n + 1) = gPa mo set S n := by
  rw [gPa, if_neg]
  rcases h with h | h <;> simp [h]
theorem gPa_t {mo n : Nat} {set : Int32} {S : xS} (h : hs set (nI n) = true) (h2 : bLiv (gPa mo set S n).1 (nI n) = true) : gPa mo set S (n + 1) = gPr mo (gPa mo set S n) n := by
  rw [gPa, if_pos (by rw [h, h2]; rfl)]
def vEd (f w4 : Nat → Int32) (w2 : Nat → Int32) : Nat → Nat → Int32
  | 0 => w2
  | n + 1 => lsn ((nI 1 <<< (nI n &&& 31)) &&& (f 9 ^^^ (-1))) (w4 n) (vEd f w4 w2 n) 12
def gEd (mo : Nat) (S : xS) : xS := wv mo 12 (upd S.1 11 (S.1 11 + nI 1), S.2.1, vEd S.1 S.2.2.2.2.1 S.2.2.1 12, S.2.2.2.1, zr S.2.2.2.2.1 12, S.2.2.2.2.2)
def vEdv (mo : Nat) (S : xS) : Int32 := (gEd mo S).1 9 &&& (S.1 9 ^^^ (-1))
-- what stays: HOLD, MONKS, sects, places
def keepS (S S' : xS) : Prop := S'.1 5 = S.1 5 ∧ S'.1 6 = S.1 6 ∧ S'.1 7 = S.1 7 ∧ S'.2.2.2.2.2 = S.2.2.2.2.2
theorem keepS.rf (S : xS) : keepS S S := ⟨rfl, rfl, rfl, rfl⟩
theorem keepS.tr {S S' S'' : xS} (a : keepS S S') (b : keepS S' S'') : keepS S S'' := ⟨b.1.trans a.1, b.2.1.trans a.2.1, b.2.2.1.trans a.2.2.1, b.2.2.2.trans a.2.2.2⟩
theorem keep_lb (mo : Nat) (S : xS) (mi : Nat) : keepS S (gLb mo S mi) := ⟨rfl, rfl, rfl, rfl⟩
theorem keep_fell (mo : Nat) (S : xS) (due : Int32) : keepS S (gFell mo S due) := ⟨rfl, rfl, rfl, rfl⟩
theorem keep_wv (mo : Nat) : ∀ (n : Nat) (S : xS), keepS S (wv mo n S) := by
  intro n
  induction n with
  | zero => intro S; exact keepS.rf S
  | succ n ih =>
    intro S
    rw [wv]
    split
    · exact keepS.rf S
    · exact (keep_fell mo S _).tr (ih _)
theorem keep_pr (mo : Nat) (S : xS) (mi : Nat) : keepS S (gPr mo S mi) := (keep_lb mo S mi).tr (keep_wv mo 12 _)
theorem keep_pa (mo : Nat) (set : Int32) (S : xS) : ∀ n, keepS S (gPa mo set S n) := by
  intro n
  induction n with
  | zero => exact keepS.rf S
  | succ n ih =>
    rw [gPa]
    split
    · exact ih.tr (keep_pr mo _ n)
    · exact ih
theorem keep_ed (mo : Nat) (S : xS) : keepS S (gEd mo S) := by
  unfold gEd
  exact keepS.tr (S' := (upd S.1 11 (S.1 11 + nI 1), S.2.1, vEd S.1 S.2.2.2.2.1 S.2.2.1 12, S.2.2.2.1, zr S.2.2.2.2.1 12, S.2.2.2.2.2)) ⟨rfl, rfl, rfl, rfl⟩ (keep_wv mo 12 _)
theorem upd_twice (f : Nat → Int32) (i : Nat) (x y : Int32) : upd (upd f i x) i y = upd f i y := by
  funext j
  by_cases e : j = i
  · subst e; simp [upd]
  · simp [upd, e]
theorem upd_own (f : Nat → Int32) (i : Nat) : upd f i (f i) = f := by
  funext j
  by_cases e : j = i
  · subst e; simp [upd]
  · simp [upd, e]
set_option maxHeartbeats 4000000 in
set_option maxRecDepth 100000 in
theorem C_X0_forceOf {f w1 w2 w3 w4 w5 : Nat → Int32} {h : Nat} (hm : MinS G T R h) {mo : Nat} (hmo : f 6 = nI mo) (hm4 : mo ≤ 4) {mi : Nat} (hw : WP w5 mo) (hmi : mi < mo) : xCon G Y_X0_forceOf [.ref h, .int (nI mi)] T R L (pm I h (f, w1, w2, w3, w4, w5)) (xD (some (.int (vForce mo f w5 mi))) T R L (pm I h (f, w1, w2, w3, w4, w5))) := by
  obtain ⟨m0, r0, r1, r2, r3, r4, s1, s2, s3, s4, s5⟩ := id hm
  obtain ⟨hp, hpl⟩ := hw mi hmi
  refine xCon.mk (xl := [some (.ref h), some (.int (nI mi)), none, none, none, none]) (by decide +kernel) (xle_r _) rfl (Nat.le_of_ble_eq_true rfl) rfl ?_
  refine xV_aload_n e_X0_forceOf_0 rfl ?_
  refine xV_cV0i e_X0_forceOf_1 c_X0_75 (by assumption) (C_X0_living hm) (Nat.le_of_ble_eq_true rfl) ⟨(Nat.le_of_ble_eq_true rfl), (Nat.le_of_ble_eq_true rfl)⟩ (xle_r _) (xle_r _) ?_
  refine xV_istore_n e_X0_forceOf_4 (Nat.le_of_ble_eq_true rfl) rfl ?_
  refine xV_iload_n e_X0_forceOf_5 rfl ?_
  refine xV_iload_n e_X0_forceOf_6 rfl ?_
  refine xV_cS2i e_X0_forceOf_7 c_X0_59 (C_X2_has) (Nat.le_of_ble_eq_true rfl) ⟨(Nat.le_of_ble_eq_true rfl), (Nat.le_of_ble_eq_true rfl)⟩ (xle_r _) (xle_r _) ?_
  refine xV_if_neB e_X0_forceOf_10 (fun h10 => ?_) (fun h10 => ?_)
  · refine xV_aload_n e_X0_forceOf_15 rfl ?_
    refine xV_iload_n e_X0_forceOf_16 rfl ?_
    refine xV_cV1i e_X0_forceOf_17 c_X0_79 (by assumption) (C_X0_placeN hm (by omega) hp) (Nat.le_of_ble_eq_true rfl) ⟨(Nat.le_of_ble_eq_true rfl), (Nat.le_of_ble_eq_true rfl)⟩ (xle_r _) (xle_r _) ?_
    refine xV_istore_n e_X0_forceOf_20 (Nat.le_of_ble_eq_true rfl) rfl ?_
    refine xV_aload_n e_X0_forceOf_21 rfl ?_
    refine xV_getF e_X0_forceOf_22 f_X0_38 (by assumption) ?_
    refine xV_iload_n e_X0_forceOf_25 rfl ?_
    refine xV_cS2i e_X0_forceOf_26 c_X0_59 (C_X2_has) (Nat.le_of_ble_eq_true rfl) ⟨(Nat.le_of_ble_eq_true rfl), (Nat.le_of_ble_eq_true rfl)⟩ (xle_r _) (xle_r _) ?_
    refine xV_if_eqB e_X0_forceOf_29 (fun h29 => ?_) (fun h29 => ?_)
    · refine xV_aload_n e_X0_forceOf_41 rfl ?_
      refine xV_getF e_X0_forceOf_42 f_X0_38 (by assumption) ?_
      refine xV_istore e_X0_forceOf_45 (Nat.le_of_ble_eq_true rfl) rfl ?_
      refine xV_aload_n e_X0_forceOf_47 rfl ?_
      refine xV_iconst (v := (nI 1)) e_X0_forceOf_48 (by decide) ?_
      refine xV_iload_n e_X0_forceOf_49 rfl ?_
      refine xV_ishl e_X0_forceOf_50 ?_
      refine xV_nearN e_X0_forceOf_51 f_X0_83 ?_
      refine xV_iload_n e_X0_forceOf_54 rfl ?_
      refine xV_cS2i e_X0_forceOf_55 c_X0_67 (C_X2_atN xRow.near hpl (by omega)) (Nat.le_of_ble_eq_true rfl) ⟨(Nat.le_of_ble_eq_true rfl), (Nat.le_of_ble_eq_true rfl)⟩ (xle_r _) (xle_r _) ?_
      refine xV_ior e_X0_forceOf_58 ?_
      refine xV_cV1i e_X0_forceOf_59 c_X0_86 (by assumption) (C_X0_monksOn hm hmo hm4) (Nat.le_of_ble_eq_true rfl) ⟨(Nat.le_of_ble_eq_true rfl), (Nat.le_of_ble_eq_true rfl)⟩ (xle_r _) (xle_r _) ?_
      refine xV_istore e_X0_forceOf_62 (Nat.le_of_ble_eq_true rfl) rfl ?_
      refine xV_iload e_X0_forceOf_64 rfl ?_
      refine xV_iload e_X0_forceOf_66 rfl ?_
      refine xV_iand e_X0_forceOf_68 ?_
      refine xV_iload_n e_X0_forceOf_69 rfl ?_
      refine xV_iand e_X0_forceOf_70 ?_
      refine xV_if_eq e_X0_forceOf_71 (fun h71 => ?_) (fun h71 => ?_)
      · refine xV_iconst (v := (nI 1)) e_X0_forceOf_78 (by decide) ?_
        exact xV_ireturn e_X0_forceOf_79 rfl rfl ⟨by rw [vForce, if_pos h10, show (if hs (f 7) (nI mi) = true then f 7 ^^^ (-1) else f 7) = f 7 from if_neg (by rw [h29]; decide), if_pos h71], rfl, rfl, rfl⟩
      · refine xV_iconst (v := (nI 2)) e_X0_forceOf_74 (by decide) ?_
        refine xV_goto e_X0_forceOf_75 ?_
        exact xV_ireturn e_X0_forceOf_79 rfl rfl ⟨by rw [vForce, if_pos h10, show (if hs (f 7) (nI mi) = true then f 7 ^^^ (-1) else f 7) = f 7 from if_neg (by rw [h29]; decide), if_neg h71], rfl, rfl, rfl⟩
    · refine xV_aload_n e_X0_forceOf_32 rfl ?_
      refine xV_getF e_X0_forceOf_33 f_X0_38 (by assumption) ?_
      refine xV_iconst (v := (-1)) e_X0_forceOf_36 (by decide) ?_
      refine xV_ixor e_X0_forceOf_37 ?_
      refine xV_goto e_X0_forceOf_38 ?_
      refine xV_istore e_X0_forceOf_45 (Nat.le_of_ble_eq_true rfl) rfl ?_
      refine xV_aload_n e_X0_forceOf_47 rfl ?_
      refine xV_iconst (v := (nI 1)) e_X0_forceOf_48 (by decide) ?_
      refine xV_iload_n e_X0_forceOf_49 rfl ?_
      refine xV_ishl e_X0_forceOf_50 ?_
      refine xV_nearN e_X0_forceOf_51 f_X0_83 ?_
      refine xV_iload_n e_X0_forceOf_54 rfl ?_
      refine xV_cS2i e_X0_forceOf_55 c_X0_67 (C_X2_atN xRow.near hpl (by omega)) (Nat.le_of_ble_eq_true rfl) ⟨(Nat.le_of_ble_eq_true rfl), (Nat.le_of_ble_eq_true rfl)⟩ (xle_r _) (xle_r _) ?_
      refine xV_ior e_X0_forceOf_58 ?_
      refine xV_cV1i e_X0_forceOf_59 c_X0_86 (by assumption) (C_X0_monksOn hm hmo hm4) (Nat.le_of_ble_eq_true rfl) ⟨(Nat.le_of_ble_eq_true rfl), (Nat.le_of_ble_eq_true rfl)⟩ (xle_r _) (xle_r _) ?_
      refine xV_istore e_X0_forceOf_62 (Nat.le_of_ble_eq_true rfl) rfl ?_
      refine xV_iload e_X0_forceOf_64 rfl ?_
      refine xV_iload e_X0_forceOf_66 rfl ?_
      refine xV_iand e_X0_forceOf_68 ?_
      refine xV_iload_n e_X0_forceOf_69 rfl ?_
      refine xV_iand e_X0_forceOf_70 ?_
      refine xV_if_eq e_X0_forceOf_71 (fun h71 => ?_) (fun h71 => ?_)
      · refine xV_iconst (v := (nI 1)) e_X0_forceOf_78 (by decide) ?_
        exact xV_ireturn e_X0_forceOf_79 rfl rfl ⟨by rw [vForce, if_pos h10, show (if hs (f 7) (nI mi) = true then f 7 ^^^ (-1) else f 7) = f 7 ^^^ (-1) from if_pos h29, if_pos h71], rfl, rfl, rfl⟩
      · refine xV_iconst (v := (nI 2)) e_X0_forceOf_74 (by decide) ?_
        refine xV_goto e_X0_forceOf_75 ?_
        exact xV_ireturn e_X0_forceOf_79 rfl rfl ⟨by rw [vForce, if_pos h10, show (if hs (f 7) (nI mi) = true then f 7 ^^^ (-1) else f 7) = f 7 ^^^ (-1) from if_pos h29, if_neg h71], rfl, rfl, rfl⟩
  · refine xV_iconst (v := (nI 0)) e_X0_forceOf_13 (by decide) ?_
    exact xV_ireturn e_X0_forceOf_14 rfl rfl ⟨by rw [vForce, if_neg (by rw [h10]; decide)], rfl, rfl, rfl⟩
set_option maxHeartbeats 4000000 in
set_option maxRecDepth 100000 in
theorem C_X0_loosenBy {f w1 w2 w3 w4 w5 : Nat → Int32} {h : Nat} (hm : MinS G T R h) {mo : Nat} (hmo : f 6 = nI mo) (hm4 : mo ≤ 4) {mi : Nat} (hw : WP w5 mo) (hmi : mi < mo) : xCon G Y_X0_loosenBy [.ref h, .int (nI mi)] T R L (pm I h (f, w1, w2, w3, w4, w5)) (xD (none) T R L (pm I h (f, w1, lsn (xnear (plN w5 mi) &&& (f 9 ^^^ (-1))) (vForce mo f w5 mi) (lsn ((nI 1 <<< (nI (plN w5 mi) &&& 31)) &&& (f 9 ^^^ (-1))) (nI 2 * vForce mo f w5 mi) w2 12) 12, w3, (if hs (f 9) (nI (plN w5 mi)) = true then w4 else upd w4 (plN w5 mi) (w4 (plN w5 mi) + nI 1)), w5))) := by
  obtain ⟨m0, r0, r1, r2, r3, r4, s1, s2, s3, s4, s5⟩ := id hm
  obtain ⟨hp, hpl⟩ := hw mi hmi
  refine xCon.mk (xl := [some (.ref h), some (.int (nI mi)), none, none]) (by decide +kernel) (xle_r _) rfl (Nat.le_of_ble_eq_true rfl) rfl ?_
  refine xV_aload_n e_X0_loosenBy_0 rfl ?_
  refine xV_iload_n e_X0_loosenBy_1 rfl ?_
  refine xV_cV1i e_X0_loosenBy_2 c_X0_105 (by assumption) (C_X0_forceOf hm hmo hm4 hw hmi) (Nat.le_of_ble_eq_true rfl) ⟨(Nat.le_of_ble_eq_true rfl), (Nat.le_of_ble_eq_true rfl)⟩ (xle_r _) (xle_r _) ?_
  refine xV_istore_n e_X0_loosenBy_5 (Nat.le_of_ble_eq_true rfl) rfl ?_
  refine xV_aload_n e_X0_loosenBy_6 rfl ?_
  refine xV_iload_n e_X0_loosenBy_7 rfl ?_
  refine xV_cV1i e_X0_loosenBy_8 c_X0_79 (by assumption) (C_X0_placeN hm (by omega) hp) (Nat.le_of_ble_eq_true rfl) ⟨(Nat.le_of_ble_eq_true rfl), (Nat.le_of_ble_eq_true rfl)⟩ (xle_r _) (xle_r _) ?_
  refine xV_istore_n e_X0_loosenBy_11 (Nat.le_of_ble_eq_true rfl) rfl ?_
  refine xV_aload_n e_X0_loosenBy_12 rfl ?_
  refine xV_iconst (v := (nI 1)) e_X0_loosenBy_13 (by decide) ?_
  refine xV_iload_n e_X0_loosenBy_14 rfl ?_
  refine xV_ishl e_X0_loosenBy_15 ?_
  refine xV_iconst (v := (nI 2)) e_X0_loosenBy_16 (by decide) ?_
  refine xV_iload_n e_X0_loosenBy_17 rfl ?_
  refine xV_imul e_X0_loosenBy_18 ?_
  refine xV_cV2v e_X0_loosenBy_19 c_X0_101 (by assumption) (C_X0_loosen hm) (Nat.le_of_ble_eq_true rfl) ⟨(Nat.le_of_ble_eq_true rfl), (Nat.le_of_ble_eq_true rfl)⟩ (xle_r _) (xle_r _) ?_
  refine xV_aload_n e_X0_loosenBy_22 rfl ?_
  refine xV_nearN e_X0_loosenBy_23 f_X0_83 ?_
  refine xV_iload_n e_X0_loosenBy_26 rfl ?_
  refine xV_cS2i e_X0_loosenBy_27 c_X0_67 (C_X2_atN xRow.near hpl (by omega)) (Nat.le_of_ble_eq_true rfl) ⟨(Nat.le_of_ble_eq_true rfl), (Nat.le_of_ble_eq_true rfl)⟩ (xle_r _) (xle_r _) ?_
  refine xV_iload_n e_X0_loosenBy_30 rfl ?_
  refine xV_cV2v e_X0_loosenBy_31 c_X0_101 (by assumption) (C_X0_loosen hm) (Nat.le_of_ble_eq_true rfl) ⟨(Nat.le_of_ble_eq_true rfl), (Nat.le_of_ble_eq_true rfl)⟩ (xle_r _) (xle_r _) ?_
  refine xV_aload_n e_X0_loosenBy_34 rfl ?_
  refine xV_iload_n e_X0_loosenBy_35 rfl ?_
  refine xV_cV1i e_X0_loosenBy_36 c_X0_108 (by assumption) (C_X0_isFallen hm) (Nat.le_of_ble_eq_true rfl) ⟨(Nat.le_of_ble_eq_true rfl), (Nat.le_of_ble_eq_true rfl)⟩ (xle_r _) (xle_r _) ?_
  refine xV_if_neB e_X0_loosenBy_39 (fun h39 => ?_) (fun h39 => ?_)
  · exact xV_return e_X0_loosenBy_60 rfl rfl ⟨rfl, rfl, rfl, by rw [if_pos h39]⟩
  · refine xV_aload_n e_X0_loosenBy_42 rfl ?_
    refine xV_getR e_X0_loosenBy_43 f_X0_21 (by assumption) (by assumption) ?_
    refine xV_iload_n e_X0_loosenBy_46 rfl ?_
    refine xV_aload_n e_X0_loosenBy_47 rfl ?_
    refine xV_getR e_X0_loosenBy_48 f_X0_21 (by assumption) (by assumption) ?_
    refine xV_iload_n e_X0_loosenBy_51 rfl ?_
    refine xV_cS2i e_X0_loosenBy_52 c_X0_67 (C_X2_atN (xRow.p4 s4) hpl (by omega)) (Nat.le_of_ble_eq_true rfl) ⟨(Nat.le_of_ble_eq_true rfl), (Nat.le_of_ble_eq_true rfl)⟩ (xle_r _) (xle_r _) ?_
    refine xV_iconst (v := (nI 1)) e_X0_loosenBy_55 (by decide) ?_
    refine xV_iadd e_X0_loosenBy_56 ?_
    refine xV_cS3v e_X0_loosenBy_57 c_X0_71 (C_X2_put4 s4 hpl (by omega)) (Nat.le_of_ble_eq_true rfl) ⟨(Nat.le_of_ble_eq_true rfl), (Nat.le_of_ble_eq_true rfl)⟩ (xle_r _) (xle_r _) ?_
    exact xV_return e_X0_loosenBy_60 rfl rfl ⟨rfl, rfl, rfl, by rw [if_neg (by rw [h39]; decide)]⟩
set_option maxHeartbeats 4000000 in
set_option maxRecDepth 100000 in
theorem P_X0_fell_26 {f w1 w2 w3 w4 w5 : Nat → Int32} {h : Nat} (hm : MinS G T R h) {mo : Nat} (hmo : f 6 = nI mo) (hm4 : mo ≤ 4) {due : Int32} : ∀ k, k ≤ 12 → xV G Y_X0_fell T (xD (none) T R L (pm I h (upd (fFl mo f w5 due) 10 (vTk due w1 (f 10) 12), zd due w1 12, vBl due (f 9 ||| due) w2 12, zd due w3 12, zd due w4 12, w5))) 26 [some (.ref h), some (.int due), some (.int (nI k))] [] T R L (pm I h (upd (fFl mo f w5 due) 10 (vTk due w1 (f 10) k), zd due w1 k, vBl due (f 9 ||| due) w2 k, zd due w3 k, zd due w4 k, w5)) := by
  obtain ⟨m0, r0, r1, r2, r3, r4, s1, s2, s3, s4, s5⟩ := id hm
  refine xloop 12 (fun k hk ih => ?_)
  refine xV_iload_n e_X0_fell_26 rfl ?_
  refine xV_bipush (v := (nI 12)) e_X0_fell_27 (by decide) ?_
  refine xV_icmp_geN e_X0_fell_29 (by omega) (by omega) (fun h29 => ?_) (fun h29 => ?_)
  · obtain rfl : k = 12 := by omega
    exact xV_return e_X0_fell_80 rfl rfl ⟨rfl, rfl, rfl, rfl⟩
  · refine xV_iload_n e_X0_fell_32 rfl ?_
    refine xV_iload_n e_X0_fell_33 rfl ?_
    refine xV_cS2i e_X0_fell_34 c_X0_59 (C_X2_has) (Nat.le_of_ble_eq_true rfl) ⟨(Nat.le_of_ble_eq_true rfl), (Nat.le_of_ble_eq_true rfl)⟩ (xle_r _) (xle_r _) ?_
    refine xV_if_eqB e_X0_fell_37 (fun h37 => ?_) (fun h37 => ?_)
    · refine xV_iincN e_X0_fell_74 rfl rfl ?_
      refine xV_goto e_X0_fell_77 ?_
      have q := ih (by omega)
      rw [vTk_f (n := k) h37, zd_f (n := k) h37, zd_f (n := k) h37, zd_f (n := k) h37, vBl_f (n := k) h37] at q
      exact q
    · refine xV_aload_n e_X0_fell_40 rfl ?_
      refine xV_dup e_X0_fell_41 rfl ?_
      refine xV_getF e_X0_fell_42 f_X0_47 (by assumption) ?_
      refine xV_aload_n e_X0_fell_45 rfl ?_
      refine xV_getR e_X0_fell_46 f_X0_9 (by assumption) (by assumption) ?_
      refine xV_iload_n e_X0_fell_49 rfl ?_
      refine xV_cS2i e_X0_fell_50 c_X0_67 (C_X2_atN (xRow.p1 s1) (by omega) (by omega)) (Nat.le_of_ble_eq_true rfl) ⟨(Nat.le_of_ble_eq_true rfl), (Nat.le_of_ble_eq_true rfl)⟩ (xle_r _) (xle_r _) ?_
      refine xV_iadd e_X0_fell_53 ?_
      refine xV_putF e_X0_fell_54 p_X0_47 (by assumption) ?_
      refine xV_aload_n e_X0_fell_57 rfl ?_
      refine xV_iload_n e_X0_fell_58 rfl ?_
      refine xV_cV1v e_X0_fell_59 c_X0_31 (by assumption) (C_X0_empty hm (by omega)) (Nat.le_of_ble_eq_true rfl) ⟨(Nat.le_of_ble_eq_true rfl), (Nat.le_of_ble_eq_true rfl)⟩ (xle_r _) (xle_r _) ?_
      refine xV_aload_n e_X0_fell_62 rfl ?_
      refine xV_nearN e_X0_fell_63 f_X0_83 ?_
      refine xV_iload_n e_X0_fell_66 rfl ?_
      refine xV_cS2i e_X0_fell_67 c_X0_67 (C_X2_atN xRow.near (by omega) (by omega)) (Nat.le_of_ble_eq_true rfl) ⟨(Nat.le_of_ble_eq_true rfl), (Nat.le_of_ble_eq_true rfl)⟩ (xle_r _) (xle_r _) ?_
      refine xV_iconst (v := (nI 1)) e_X0_fell_70 (by decide) ?_
      refine xV_cV2v e_X0_fell_71 c_X0_101 (by assumption) (C_X0_loosen hm) (Nat.le_of_ble_eq_true rfl) ⟨(Nat.le_of_ble_eq_true rfl), (Nat.le_of_ble_eq_true rfl)⟩ (xle_r _) (xle_r _) ?_
      refine xV_iincN e_X0_fell_74 rfl rfl ?_
      refine xV_goto e_X0_fell_77 ?_
      have q := ih (by omega)
      rw [vTk_t (n := k) h37, zd_t (n := k) h37, zd_t (n := k) h37, zd_t (n := k) h37, vBl_t (n := k) h37] at q
      simp only [upd_twice, zd_at]
      exact q
set_option maxHeartbeats 4000000 in
set_option maxRecDepth 100000 in
theorem C_X0_fell {f w1 w2 w3 w4 w5 : Nat → Int32} {h : Nat} (hm : MinS G T R h) {mo : Nat} (hmo : f 6 = nI mo) (hm4 : mo ≤ 4) {due : Int32} : xCon G Y_X0_fell [.ref h, .int due] T R L (pm I h (f, w1, w2, w3, w4, w5)) (xD (none) T R L (pm I h (gFell mo (f, w1, w2, w3, w4, w5) due))) := by
  obtain ⟨m0, r0, r1, r2, r3, r4, s1, s2, s3, s4, s5⟩ := id hm
  refine xCon.mk (xl := [some (.ref h), some (.int due), none]) (by decide +kernel) (xle_r _) rfl (Nat.le_of_ble_eq_true rfl) rfl ?_
  refine xV_aload_n e_X0_fell_0 rfl ?_
  refine xV_dup e_X0_fell_1 rfl ?_
  refine xV_getF e_X0_fell_2 f_X0_44 (by assumption) ?_
  refine xV_iload_n e_X0_fell_5 rfl ?_
  refine xV_ior e_X0_fell_6 ?_
  refine xV_putF e_X0_fell_7 p_X0_44 (by assumption) ?_
  refine xV_aload_n e_X0_fell_10 rfl ?_
  refine xV_dup e_X0_fell_11 rfl ?_
  refine xV_getF e_X0_fell_12 f_X0_41 (by assumption) ?_
  refine xV_aload_n e_X0_fell_15 rfl ?_
  refine xV_iload_n e_X0_fell_16 rfl ?_
  refine xV_cV1i e_X0_fell_17 c_X0_86 (by assumption) (C_X0_monksOn (f := upd f 9 (f 9 ||| due)) hm hmo hm4) (Nat.le_of_ble_eq_true rfl) ⟨(Nat.le_of_ble_eq_true rfl), (Nat.le_of_ble_eq_true rfl)⟩ (xle_r _) (xle_r _) ?_
  refine xV_ior e_X0_fell_20 ?_
  refine xV_putF e_X0_fell_21 p_X0_41 (by assumption) ?_
  refine xV_iconst (v := (nI 0)) e_X0_fell_24 (by decide) ?_
  refine xV_istore_n e_X0_fell_25 (Nat.le_of_ble_eq_true rfl) rfl ?_
  have q := P_X0_fell_26 (L := L) (I := I) (f := f) (w1 := w1) (w2 := w2) (w3 := w3) (w4 := w4) (w5 := w5) (due := due) hm hmo hm4 0 (Nat.zero_le _)
  rw [zd_0, zd_0, zd_0, vTk, vBl, show upd (fFl mo f w5 due) 10 (f 10) = fFl mo f w5 due from upd_own (fFl mo f w5 due) 10] at q
  exact q
set_option maxHeartbeats 4000000 in
set_option maxRecDepth 100000 in
theorem P_X0_waves_7 {h mo : Nat} {bf : Int32} (hm : MinS G T R h) (hm4 : mo ≤ 4) : ∀ k, k ≤ 12 → ∀ (j : Option Value) (f w1 w2 w3 w4 w5 : Nat → Int32) (hmo : f 6 = nI mo), xV G Y_X0_waves T (xD (some (.int ((wv mo (12 - k) (f, w1, w2, w3, w4, w5)).1 9 &&& (bf ^^^ (-1))))) T R L (pm I h (wv mo (12 - k) (f, w1, w2, w3, w4, w5)))) 7 [some (.ref h), some (.int bf), some (.int (nI k)), none] [] T R L (pm I h (f, w1, w2, w3, w4, w5)) := by
  obtain ⟨m0, r0, r1, r2, r3, r4, s1, s2, s3, s4, s5⟩ := id hm
  refine xloop 12 (fun k hk ih => ?_)
  intro j f w1 w2 w3 w4 w5 hmo
  refine xV_iload_n e_X0_waves_7 rfl ?_
  refine xV_bipush (v := (nI 12)) e_X0_waves_8 (by decide) ?_
  refine xV_icmp_geN e_X0_waves_10 (by omega) (by omega) (fun h10 => ?_) (fun h10 => ?_)
  · obtain rfl : k = 12 := by omega
    refine xV_aload_n e_X0_waves_36 rfl ?_
    refine xV_getF e_X0_waves_37 f_X0_44 (by assumption) ?_
    refine xV_iload_n e_X0_waves_40 rfl ?_
    refine xV_iconst (v := (-1)) e_X0_waves_41 (by decide) ?_
    refine xV_ixor e_X0_waves_42 ?_
    refine xV_iand e_X0_waves_43 ?_
    exact xV_ireturn e_X0_waves_44 rfl rfl ⟨rfl, rfl, rfl, rfl⟩
  · refine xV_aload_n e_X0_waves_13 rfl ?_
    refine xV_cV0i e_X0_waves_14 c_X0_120 (by assumption) (C_X0_tooLoose hm) (Nat.le_of_ble_eq_true rfl) ⟨(Nat.le_of_ble_eq_true rfl), (Nat.le_of_ble_eq_true rfl)⟩ (xle_r _) (xle_r _) ?_
    refine xV_istore_n e_X0_waves_17 (Nat.le_of_ble_eq_true rfl) rfl ?_
    refine xV_iload_n e_X0_waves_18 rfl ?_
    refine xV_if_ne e_X0_waves_19 (fun h19 => ?_) (fun h19 => ?_)
    · refine xV_aload_n e_X0_waves_25 rfl ?_
      refine xV_iload_n e_X0_waves_26 rfl ?_
      refine xV_cV1v e_X0_waves_27 c_X0_123 (by assumption) (C_X0_fell hm hmo hm4) (Nat.le_of_ble_eq_true rfl) ⟨(Nat.le_of_ble_eq_true rfl), (Nat.le_of_ble_eq_true rfl)⟩ (xle_r _) (xle_r _) ?_
      refine xV_iincN e_X0_waves_30 rfl rfl ?_
      refine xV_goto e_X0_waves_33 ?_
      rw [wv_s (S := (f, w1, w2, w3, w4, w5)) (by omega) h19]
      refine xV_sub (xl' := [some (.ref h), some (.int bf), some (.int (nI (k + 1))), none]) ⟨rfl, rfl, rfl, trivial⟩ ?_
      exact ih (by omega) none _ _ _ _ _ _ (show (gFell mo (f, w1, w2, w3, w4, w5) (gDue (f, w1, w2, w3, w4, w5))).1 6 = nI mo from hmo)
    · refine xV_goto e_X0_waves_22 ?_
      refine xV_aload_n e_X0_waves_36 rfl ?_
      refine xV_getF e_X0_waves_37 f_X0_44 (by assumption) ?_
      refine xV_iload_n e_X0_waves_40 rfl ?_
      refine xV_iconst (v := (-1)) e_X0_waves_41 (by decide) ?_
      refine xV_ixor e_X0_waves_42 ?_
      refine xV_iand e_X0_waves_43 ?_
      exact xV_ireturn e_X0_waves_44 rfl rfl ⟨by rw [wv_z (S := (f, w1, w2, w3, w4, w5)) h19], rfl, rfl, by rw [wv_z (S := (f, w1, w2, w3, w4, w5)) h19]⟩
set_option maxHeartbeats 4000000 in
set_option maxRecDepth 100000 in
theorem C_X0_waves {f w1 w2 w3 w4 w5 : Nat → Int32} {h : Nat} (hm : MinS G T R h) {mo : Nat} (hmo : f 6 = nI mo) (hm4 : mo ≤ 4) : xCon G Y_X0_waves [.ref h] T R L (pm I h (f, w1, w2, w3, w4, w5)) (xD (some (.int ((wv mo 12 (f, w1, w2, w3, w4, w5)).1 9 &&& (f 9 ^^^ (-1))))) T R L (pm I h (wv mo 12 (f, w1, w2, w3, w4, w5)))) := by
  obtain ⟨m0, r0, r1, r2, r3, r4, s1, s2, s3, s4, s5⟩ := id hm
  refine xCon.mk (xl := [some (.ref h), none, none, none]) (by decide +kernel) (xle_r _) rfl (Nat.le_of_ble_eq_true rfl) rfl ?_
  refine xV_aload_n e_X0_waves_0 rfl ?_
  refine xV_getF e_X0_waves_1 f_X0_44 (by assumption) ?_
  refine xV_istore_n e_X0_waves_4 (Nat.le_of_ble_eq_true rfl) rfl ?_
  refine xV_iconst (v := (nI 0)) e_X0_waves_5 (by decide) ?_
  refine xV_istore_n e_X0_waves_6 (Nat.le_of_ble_eq_true rfl) rfl ?_
  exact P_X0_waves_7 hm hm4 0 (Nat.zero_le _) none _ _ _ _ _ _ hmo
set_option maxHeartbeats 4000000 in
set_option maxRecDepth 100000 in
theorem C_X0_prayer {f w1 w2 w3 w4 w5 : Nat → Int32} {h : Nat} (hm : MinS G T R h) {mo : Nat} (hmo : f 6 = nI mo) (hm4 : mo ≤ 4) {mi : Nat} (hw : WP w5 mo) (hmi : mi < mo) : xCon G Y_X0_prayer [.ref h, .int (nI mi)] T R L (pm I h (f, w1, w2, w3, w4, w5)) (xD (some (.int (vPr mo (f, w1, w2, w3, w4, w5) mi))) T R L (pm I h (gPr mo (f, w1, w2, w3, w4, w5) mi))) := by
  obtain ⟨m0, r0, r1, r2, r3, r4, s1, s2, s3, s4, s5⟩ := id hm
  refine xCon.mk (xl := [some (.ref h), some (.int (nI mi))]) (by decide +kernel) (xle_r _) rfl (Nat.le_of_ble_eq_true rfl) rfl ?_
  refine xV_aload_n e_X0_prayer_0 rfl ?_
  refine xV_iload_n e_X0_prayer_1 rfl ?_
  refine xV_cV1v e_X0_prayer_2 c_X0_89 (by assumption) (C_X0_loosenBy hm hmo hm4 hw hmi) (Nat.le_of_ble_eq_true rfl) ⟨(Nat.le_of_ble_eq_true rfl), (Nat.le_of_ble_eq_true rfl)⟩ (xle_r _) (xle_r _) ?_
  refine xV_aload_n e_X0_prayer_5 rfl ?_
  refine xV_cV0i e_X0_prayer_6 c_X0_92 (by assumption) (C_X0_waves hm hmo hm4) (Nat.le_of_ble_eq_true rfl) ⟨(Nat.le_of_ble_eq_true rfl), (Nat.le_of_ble_eq_true rfl)⟩ (xle_r _) (xle_r _) ?_
  exact xV_ireturn e_X0_prayer_9 rfl rfl ⟨rfl, rfl, rfl, rfl⟩
theorem bLiv_lt {f : Nat → Int32} {n mo : Nat} (hmo : f 6 = nI mo) (hn : n < 2 ^ 31) (hm : mo < 2 ^ 31) (h : bLiv f (nI n) = true) : n < mo := by
  simp only [bLiv, bMonk, Bool.and_eq_true, decide_eq_true_eq] at h
  rw [hmo] at h
  exact (nI_ltI hn hm).mp h.1.2
set_option maxHeartbeats 4000000 in
set_option maxRecDepth 100000 in
theorem P_X0_prayAll_2 {f w1 w2 w3 w4 w5 : Nat → Int32} {h : Nat} (hm : MinS G T R h) {mo : Nat} (hmo : f 6 = nI mo) (hm4 : mo ≤ 4) (hw : WP w5 mo) {set : Int32} : ∀ k, k ≤ 4 → xV G Y_X0_prayAll T (xD (none) T R L (pm I h (gPa mo set (f, w1, w2, w3, w4, w5) 4))) 2 [some (.ref h), some (.int set), some (.int (nI k))] [] T R L (pm I h (gPa mo set (f, w1, w2, w3, w4, w5) k)) := by
  obtain ⟨m0, r0, r1, r2, r3, r4, s1, s2, s3, s4, s5⟩ := id hm
  refine xloop 4 (fun k hk ih => ?_)
  refine xV_iload_n e_X0_prayAll_2 rfl ?_
  refine xV_iconst (v := (nI 4)) e_X0_prayAll_3 (by decide) ?_
  refine xV_icmp_geN e_X0_prayAll_4 (by omega) (by omega) (fun h4 => ?_) (fun h4 => ?_)
  · obtain rfl : k = 4 := by omega
    exact xV_return e_X0_prayAll_35 rfl rfl ⟨rfl, rfl, rfl, rfl⟩
  · refine xV_iload_n e_X0_prayAll_7 rfl ?_
    refine xV_iload_n e_X0_prayAll_8 rfl ?_
    refine xV_cS2i e_X0_prayAll_9 c_X0_59 (C_X2_has) (Nat.le_of_ble_eq_true rfl) ⟨(Nat.le_of_ble_eq_true rfl), (Nat.le_of_ble_eq_true rfl)⟩ (xle_r _) (xle_r _) ?_
    refine xV_if_eqB e_X0_prayAll_12 (fun h12 => ?_) (fun h12 => ?_)
    · refine xV_iincN e_X0_prayAll_29 rfl rfl ?_
      refine xV_goto e_X0_prayAll_32 ?_
      have q := ih (by omega)
      rw [gPa_f (S := (f, w1, w2, w3, w4, w5)) (Or.inl h12)] at q
      exact q
    · refine xV_aload_n e_X0_prayAll_15 rfl ?_
      refine xV_iload_n e_X0_prayAll_16 rfl ?_
      refine xV_cV1i e_X0_prayAll_17 c_X0_95 (by assumption) (C_X0_isLiving hm) (Nat.le_of_ble_eq_true rfl) ⟨(Nat.le_of_ble_eq_true rfl), (Nat.le_of_ble_eq_true rfl)⟩ (xle_r _) (xle_r _) ?_
      refine xV_if_eqB e_X0_prayAll_20 (fun h20 => ?_) (fun h20 => ?_)
      · refine xV_iincN e_X0_prayAll_29 rfl rfl ?_
        refine xV_goto e_X0_prayAll_32 ?_
        have q := ih (by omega)
        rw [gPa_f (S := (f, w1, w2, w3, w4, w5)) (Or.inr h20)] at q
        exact q
      · refine xV_aload_n e_X0_prayAll_23 rfl ?_
        refine xV_iload_n e_X0_prayAll_24 rfl ?_
        have hk2 := keep_pa mo set (f, w1, w2, w3, w4, w5) k
        have hlt := bLiv_lt (hk2.2.1.trans hmo) (by omega) (by omega) h20
        refine xV_cV1i e_X0_prayAll_25 c_X0_98 (by assumption) (C_X0_prayer (f := (gPa mo set (f, w1, w2, w3, w4, w5) k).1) (w1 := (gPa mo set (f, w1, w2, w3, w4, w5) k).2.1) (w2 := (gPa mo set (f, w1, w2, w3, w4, w5) k).2.2.1) (w3 := (gPa mo set (f, w1, w2, w3, w4, w5) k).2.2.2.1) (w4 := (gPa mo set (f, w1, w2, w3, w4, w5) k).2.2.2.2.1) (w5 := (gPa mo set (f, w1, w2, w3, w4, w5) k).2.2.2.2.2) hm (hk2.2.1.trans hmo) hm4 (by rw [hk2.2.2.2]; exact hw) hlt) (Nat.le_of_ble_eq_true rfl) ⟨(Nat.le_of_ble_eq_true rfl), (Nat.le_of_ble_eq_true rfl)⟩ (xle_r _) (xle_r _) ?_
        refine xV_pop e_X0_prayAll_28 rfl ?_
        refine xV_iincN e_X0_prayAll_29 rfl rfl ?_
        refine xV_goto e_X0_prayAll_32 ?_
        have q := ih (by omega)
        rw [gPa_t (S := (f, w1, w2, w3, w4, w5)) h12 h20] at q
        exact q
set_option maxHeartbeats 4000000 in
set_option maxRecDepth 100000 in
theorem C_X0_prayAll {f w1 w2 w3 w4 w5 : Nat → Int32} {h : Nat} (hm : MinS G T R h) {mo : Nat} (hmo : f 6 = nI mo) (hm4 : mo ≤ 4) (hw : WP w5 mo) {set : Int32} : xCon G Y_X0_prayAll [.ref h, .int set] T R L (pm I h (f, w1, w2, w3, w4, w5)) (xD (none) T R L (pm I h (gPa mo set (f, w1, w2, w3, w4, w5) 4))) := by
  obtain ⟨m0, r0, r1, r2, r3, r4, s1, s2, s3, s4, s5⟩ := id hm
  refine xCon.mk (xl := [some (.ref h), some (.int set), none]) (by decide +kernel) (xle_r _) rfl (Nat.le_of_ble_eq_true rfl) rfl ?_
  refine xV_iconst (v := (nI 0)) e_X0_prayAll_0 (by decide) ?_
  refine xV_istore_n e_X0_prayAll_1 (Nat.le_of_ble_eq_true rfl) rfl ?_
  exact P_X0_prayAll_2 hm hmo hm4 hw 0 (Nat.zero_le _)
set_option maxHeartbeats 4000000 in
set_option maxRecDepth 100000 in
theorem P_X0_endDay_12 {f w1 w2 w3 w4 w5 : Nat → Int32} {h : Nat} (hm : MinS G T R h) {mo : Nat} (hmo : f 6 = nI mo) (hm4 : mo ≤ 4) : ∀ k, k ≤ 12 → xV G Y_X0_endDay T (xD (some (.int (vEdv mo (f, w1, w2, w3, w4, w5)))) T R L (pm I h (gEd mo (f, w1, w2, w3, w4, w5)))) 12 [some (.ref h), some (.int (nI k))] [] T R L (pm I h (upd f 11 (f 11 + nI 1), w1, vEd f w4 w2 k, w3, zr w4 k, w5)) := by
  obtain ⟨m0, r0, r1, r2, r3, r4, s1, s2, s3, s4, s5⟩ := id hm
  refine xloop 12 (fun k hk ih => ?_)
  refine xV_iload_n e_X0_endDay_12 rfl ?_
  refine xV_bipush (v := (nI 12)) e_X0_endDay_13 (by decide) ?_
  refine xV_icmp_geN e_X0_endDay_15 (by omega) (by omega) (fun h15 => ?_) (fun h15 => ?_)
  · obtain rfl : k = 12 := by omega
    refine xV_aload_n e_X0_endDay_48 rfl ?_
    refine xV_cV0i e_X0_endDay_49 c_X0_92 (by assumption) (C_X0_waves (f := upd f 11 (f 11 + nI 1)) hm hmo hm4) (Nat.le_of_ble_eq_true rfl) ⟨(Nat.le_of_ble_eq_true rfl), (Nat.le_of_ble_eq_true rfl)⟩ (xle_r _) (xle_r _) ?_
    exact xV_ireturn e_X0_endDay_52 rfl rfl ⟨rfl, rfl, rfl, rfl⟩
  · refine xV_aload_n e_X0_endDay_18 rfl ?_
    refine xV_iconst (v := (nI 1)) e_X0_endDay_19 (by decide) ?_
    refine xV_iload_n e_X0_endDay_20 rfl ?_
    refine xV_ishl e_X0_endDay_21 ?_
    refine xV_aload_n e_X0_endDay_22 rfl ?_
    refine xV_getR e_X0_endDay_23 f_X0_21 (by assumption) (by assumption) ?_
    refine xV_iload_n e_X0_endDay_26 rfl ?_
    refine xV_cS2i e_X0_endDay_27 c_X0_67 (C_X2_atN (xRow.p4 s4) (by omega) (by omega)) (Nat.le_of_ble_eq_true rfl) ⟨(Nat.le_of_ble_eq_true rfl), (Nat.le_of_ble_eq_true rfl)⟩ (xle_r _) (xle_r _) ?_
    refine xV_cV2v e_X0_endDay_30 c_X0_101 (by assumption) (C_X0_loosen hm) (Nat.le_of_ble_eq_true rfl) ⟨(Nat.le_of_ble_eq_true rfl), (Nat.le_of_ble_eq_true rfl)⟩ (xle_r _) (xle_r _) ?_
    refine xV_aload_n e_X0_endDay_33 rfl ?_
    refine xV_getR e_X0_endDay_34 f_X0_21 (by assumption) (by assumption) ?_
    refine xV_iload_n e_X0_endDay_37 rfl ?_
    refine xV_iconst (v := (nI 0)) e_X0_endDay_38 (by decide) ?_
    refine xV_cS3v e_X0_endDay_39 c_X0_71 (C_X2_put4 s4 (by omega) (by omega)) (Nat.le_of_ble_eq_true rfl) ⟨(Nat.le_of_ble_eq_true rfl), (Nat.le_of_ble_eq_true rfl)⟩ (xle_r _) (xle_r _) ?_
    refine xV_iincN e_X0_endDay_42 rfl rfl ?_
    refine xV_goto e_X0_endDay_45 ?_
    have q := ih (by omega)
    rw [← zr_s w4 k, vEd] at q
    rw [zr_at]
    exact q
set_option maxHeartbeats 4000000 in
set_option maxRecDepth 100000 in
theorem C_X0_endDay {f w1 w2 w3 w4 w5 : Nat → Int32} {h : Nat} (hm : MinS G T R h) {mo : Nat} (hmo : f 6 = nI mo) (hm4 : mo ≤ 4) : xCon G Y_X0_endDay [.ref h] T R L (pm I h (f, w1, w2, w3, w4, w5)) (xD (some (.int (vEdv mo (f, w1, w2, w3, w4, w5)))) T R L (pm I h (gEd mo (f, w1, w2, w3, w4, w5)))) := by
  obtain ⟨m0, r0, r1, r2, r3, r4, s1, s2, s3, s4, s5⟩ := id hm
  refine xCon.mk (xl := [some (.ref h), none]) (by decide +kernel) (xle_r _) rfl (Nat.le_of_ble_eq_true rfl) rfl ?_
  refine xV_aload_n e_X0_endDay_0 rfl ?_
  refine xV_dup e_X0_endDay_1 rfl ?_
  refine xV_getF e_X0_endDay_2 f_X0_50 (by assumption) ?_
  refine xV_iconst (v := (nI 1)) e_X0_endDay_5 (by decide) ?_
  refine xV_iadd e_X0_endDay_6 ?_
  refine xV_putF e_X0_endDay_7 p_X0_50 (by assumption) ?_
  refine xV_iconst (v := (nI 0)) e_X0_endDay_10 (by decide) ?_
  refine xV_istore_n e_X0_endDay_11 (Nat.le_of_ble_eq_true rfl) rfl ?_
  have q := P_X0_endDay_12 (L := L) (I := I) (f := f) (w1 := w1) (w2 := w2) (w3 := w3) (w4 := w4) (w5 := w5) hm hmo hm4 0 (Nat.zero_le _)
  rw [zr_0, vEd] at q
  exact q
end XMINB
end
section
/-! READER: the text sign by sign -/
section XRDR
variable {G : xG} {T : xT} {R : xR} {L : xL} {I : xI}
abbrev xRd : Type := (Nat → Int32) × xS
def RdS (G : xG) (T : xT) (R : xR) (q : Nat) : Prop := (xSh G T q).1 = 1 ∧ R q 0 = some (q + 1) ∧ MinS G T R (q + 1)
theorem va_up_up {α : Type} {f : Nat → α} {k : Nat} {x y : α} : va_up (va_up f k x) k y = va_up f k y := by
  funext j
  by_cases e : j = k
  · subst e; simp [va_up]
  · simp [va_up, e]
theorem tsw_out {x : Int32} {n : Nat} (hn : n < 2 ^ 31) (h : ∀ k, k ≤ n → ¬ x = nI k) : x.toInt < 0 ∨ (n : Int) < x.toInt := by
  by_cases a : x.toInt < 0
  · exact Or.inl a
  · by_cases b : (n : Int) < x.toInt
    · exact Or.inr b
    · refine absurd ?_ (h x.toInt.toNat (by omega))
      apply Int32.toInt_inj.mp
      rw [nI_toInt (by omega)]
      omega
theorem xbt : xb true = nI 1 := rfl
theorem xbf : xb false = nI 0 := rfl
def upB (n : Nat) (w : Nat → Int32) (i v : Int32) : Nat → Int32 := if bIn i n = true then upd w i.toNatClampNeg v else w
theorem upB_N {n k : Nat} {w : Nat → Int32} {v : Int32} (hk : k < n) (hn : n < 2 ^ 31) : upB n w (nI k) v = upd w k v := by
  rw [upB, if_pos (bIn_N hk hn), nI_clamp (Nat.lt_trans hk hn)]
section XU
variable {Y : xY} {Tb : xT} {o : xO} {pc pc' idx q : Nat} {xl : List (Option Value)} {st : List Value} {S : xS} {u : Nat → Int32}
theorem pm_u : pm (va_up I q u) (q + 1) S q = u := by rw [pm_o (by omega), va_up_s]
theorem xV_getU {k0 : Nat} (hd : decode Y.2.1 pc = .ok (.getfield idx, 3) ∧ pc + 3 = pc') (hf : xFL Y.1.cls idx 1 k0 0) (hs : (xSh G T q).1 = 1) (k : xV G Y Tb o pc' xl (.int (u k0) :: st) T R L (pm (va_up I q u) (q + 1) S)) : xV G Y Tb o pc xl (.ref q :: st) T R L (pm (va_up I q u) (q + 1) S) :=
  xV_getI hd hf hs (by rw [pm_u]; exact k)
theorem xV_putU {k0 : Nat} {x : Int32} (hd : decode Y.2.1 pc = .ok (.putfield idx, 3) ∧ pc + 3 = pc') (hf : xFP Y.1.cls idx 1 k0 0 false .int) (hs : (xSh G T q).1 = 1) (k : xV G Y Tb o pc' xl st T R L (pm (va_up I q (upd u k0 x)) (q + 1) S)) : xV G Y Tb o pc xl (.int x :: .ref q :: st) T R L (pm (va_up I q u) (q + 1) S) :=
  xV_putI hd hf hs (by unfold xst; rw [pm_u, pm_va (by omega), va_up_up]; exact k)
end XU
theorem C_X2_putB1 {h : Nat} {i v : Int32} {f w1 w2 w3 w4 w5 : Nat → Int32} (hs : xSh G T (h + 1) = (4, 12)) : xCon G Y_X2_put [.ref (h + 1), .int i, .int v] T R L (pm I h (f, w1, w2, w3, w4, w5)) (xD none T R L (pm I h (f, upB 12 w1 i v, w2, w3, w4, w5))) := by
  have q := C_X2_put (R := R) (L := L) (I := pm I h (f, w1, w2, w3, w4, w5)) (i := i) (v := v) hs (by omega)
  unfold xput at q
  unfold upB
  split at q
  · rename_i hb
    rw [pm_st1] at q
    rw [if_pos hb]
    exact q
  · rename_i hb
    rw [if_neg hb]
    exact q
theorem C_X2_putB2 {h : Nat} {i v : Int32} {f w1 w2 w3 w4 w5 : Nat → Int32} (hs : xSh G T (h + 2) = (4, 12)) : xCon G Y_X2_put [.ref (h + 2), .int i, .int v] T R L (pm I h (f, w1, w2, w3, w4, w5)) (xD none T R L (pm I h (f, w1, upB 12 w2 i v, w3, w4, w5))) := by
  have q := C_X2_put (R := R) (L := L) (I := pm I h (f, w1, w2, w3, w4, w5)) (i := i) (v := v) hs (by omega)
  unfold xput at q
  unfold upB
  split at q
  · rename_i hb
    rw [pm_st2] at q
    rw [if_pos hb]
    exact q
  · rename_i hb
    rw [if_neg hb]
    exact q
theorem C_X2_putB3 {h : Nat} {i v : Int32} {f w1 w2 w3 w4 w5 : Nat → Int32} (hs : xSh G T (h + 3) = (4, 12)) : xCon G Y_X2_put [.ref (h + 3), .int i, .int v] T R L (pm I h (f, w1, w2, w3, w4, w5)) (xD none T R L (pm I h (f, w1, w2, upB 12 w3 i v, w4, w5))) := by
  have q := C_X2_put (R := R) (L := L) (I := pm I h (f, w1, w2, w3, w4, w5)) (i := i) (v := v) hs (by omega)
  unfold xput at q
  unfold upB
  split at q
  · rename_i hb
    rw [pm_st3] at q
    rw [if_pos hb]
    exact q
  · rename_i hb
    rw [if_neg hb]
    exact q
theorem C_X2_putB4 {h : Nat} {i v : Int32} {f w1 w2 w3 w4 w5 : Nat → Int32} (hs : xSh G T (h + 4) = (4, 12)) : xCon G Y_X2_put [.ref (h + 4), .int i, .int v] T R L (pm I h (f, w1, w2, w3, w4, w5)) (xD none T R L (pm I h (f, w1, w2, w3, upB 12 w4 i v, w5))) := by
  have q := C_X2_put (R := R) (L := L) (I := pm I h (f, w1, w2, w3, w4, w5)) (i := i) (v := v) hs (by omega)
  unfold xput at q
  unfold upB
  split at q
  · rename_i hb
    rw [pm_st4] at q
    rw [if_pos hb]
    exact q
  · rename_i hb
    rw [if_neg hb]
    exact q
theorem C_X2_putB5 {h : Nat} {i v : Int32} {f w1 w2 w3 w4 w5 : Nat → Int32} (hs : xSh G T (h + 5) = (4, 4)) : xCon G Y_X2_put [.ref (h + 5), .int i, .int v] T R L (pm I h (f, w1, w2, w3, w4, w5)) (xD none T R L (pm I h (f, w1, w2, w3, w4, upB 4 w5 i v))) := by
  have q := C_X2_put (R := R) (L := L) (I := pm I h (f, w1, w2, w3, w4, w5)) (i := i) (v := v) hs (by omega)
  unfold xput at q
  unfold upB
  split at q
  · rename_i hb
    rw [pm_st5] at q
    rw [if_pos hb]
    exact q
  · rename_i hb
    rw [if_neg hb]
    exact q
set_option maxHeartbeats 4000000 in
set_option maxRecDepth 100000 in
theorem C_X0_addMonkG {f w1 w2 w3 w4 w5 : Nat → Int32} {h : Nat} (hm : MinS G T R h) {c s : Int32} : xCon G Y_X0_addMonk [.ref h, .int c, .int s] T R L (pm I h (f, w1, w2, w3, w4, w5)) (xD none T R L (pm I h (upd (upd f 7 (f 7 ||| (s <<< (f 6 &&& 31)))) 6 (f 6 + nI 1), w1, w2, w3, w4, upB 4 w5 (f 6) c))) := by
  obtain ⟨m0, r0, r1, r2, r3, r4, s1, s2, s3, s4, s5⟩ := id hm
  refine xCon.mk (xl := [some (.ref h), some (.int c), some (.int s)]) (by decide +kernel) (xle_r _) rfl (Nat.le_of_ble_eq_true rfl) rfl ?_
  refine xV_aload_n e_X0_addMonk_0 rfl ?_
  refine xV_getR e_X0_addMonk_1 f_X0_24 (by assumption) (by assumption) ?_
  refine xV_aload_n e_X0_addMonk_4 rfl ?_
  refine xV_getF e_X0_addMonk_5 f_X0_35 (by assumption) ?_
  refine xV_iload_n e_X0_addMonk_8 rfl ?_
  refine xV_cS3v e_X0_addMonk_9 c_X0_71 (C_X2_putB5 s5) (Nat.le_of_ble_eq_true rfl) ⟨(Nat.le_of_ble_eq_true rfl), (Nat.le_of_ble_eq_true rfl)⟩ (xle_r _) (xle_r _) ?_
  refine xV_aload_n e_X0_addMonk_12 rfl ?_
  refine xV_dup e_X0_addMonk_13 rfl ?_
  refine xV_getF e_X0_addMonk_14 f_X0_38 (by assumption) ?_
  refine xV_iload_n e_X0_addMonk_17 rfl ?_
  refine xV_aload_n e_X0_addMonk_18 rfl ?_
  refine xV_getF e_X0_addMonk_19 f_X0_35 (by assumption) ?_
  refine xV_ishl e_X0_addMonk_22 ?_
  refine xV_ior e_X0_addMonk_23 ?_
  refine xV_putF e_X0_addMonk_24 p_X0_38 (by assumption) ?_
  refine xV_aload_n e_X0_addMonk_27 rfl ?_
  refine xV_dup e_X0_addMonk_28 rfl ?_
  refine xV_getF e_X0_addMonk_29 f_X0_35 (by assumption) ?_
  refine xV_iconst (v := (nI 1)) e_X0_addMonk_32 (by decide) ?_
  refine xV_iadd e_X0_addMonk_33 ?_
  refine xV_putF e_X0_addMonk_34 p_X0_35 (by assumption) ?_
  exact xV_return e_X0_addMonk_37 rfl rfl ⟨rfl, rfl, rfl, rfl⟩
def rOn (n : Int32) (X : xRd) : xRd := (upd X.1 1 n, X.2)
def rHold (c : Int32) (X : xRd) : Bool × xRd := if c < nI 49 then (false, X) else if c ≤ nI 57 then (true, (upd X.1 1 (nI 2), (upd X.2.1 5 (c - nI 48), X.2.2))) else (false, X)
def rPart (c : Int32) (X : xRd) : Bool × xRd :=
  if c = nI 67 ∧ ¬ nI 8 ≤ xbc (X.1 2) then (true, rOn (nI 3) X) else if c = nI 75 ∧ ¬ nI 4 ≤ X.2.1 6 then (true, rOn (nI 8) X) else (false, X)
def tCells (t : Int32) : Int32 := if t = 0 then nI 1023 else if t = nI 1 then nI 3072 else nI 0
def rTens (t barred : Int32) (X : xRd) : Bool × xRd := (decide (¬ tCells t &&& (barred ^^^ (-1)) = 0), (upd X.1 3 (nI 10 * t), X.2))
def rOnes (t barred : Int32) (X : xRd) : Bool × xRd :=
  (if t < 0 then false else if nI 9 < t then false else bCell (X.1 3 + t) && !hs barred (X.1 3 + t), (upd X.1 3 (X.1 3 + t), X.2))
def rTell (X : xRd) : Bool × xRd := (true, (upd (upd X.1 2 (X.1 2 ||| (nI 1 <<< (X.1 3 &&& 31)))) 1 (nI 5), X.2))
def bAm (a : Int32) : Bool := !decide (a < 0) && decide (a ≤ nI 9)
def rSect (s : Int32) (X : xRd) : Bool × xRd :=
  if s = 0 ∨ s = nI 1 then (true, (upd X.1 1 (nI 2), (upd (upd X.2.1 7 (X.2.1 7 ||| (s <<< (X.2.1 6 &&& 31)))) 6 (X.2.1 6 + nI 1), X.2.2.1, X.2.2.2.1, X.2.2.2.2.1, X.2.2.2.2.2.1, upB 4 X.2.2.2.2.2.2 (X.2.1 6) (X.1 3)))) else (false, X)
/-- behind a sign that was taken: go on, else stop -/
def rThen (n : Int32) (b : Bool × xRd) : Bool × xRd := if b.1 = true then (true, rOn n b.2) else b
def rAm1 (a : Int32) (X : xRd) : Bool × xRd := if bAm a = true then (true, (X.1, (X.2.1, upB 12 X.2.2.1 (X.1 3) a, X.2.2.2))) else (false, X)
def rAm2 (a : Int32) (X : xRd) : Bool × xRd := if bAm a = true then (true, (X.1, (X.2.1, X.2.2.1, upB 12 X.2.2.2.1 (X.1 3) a, X.2.2.2.2))) else (false, X)
def rAm3 (a : Int32) (X : xRd) : Bool × xRd := if bAm a = true then (true, (X.1, (X.2.1, X.2.2.1, X.2.2.2.1, upB 12 X.2.2.2.2.1 (X.1 3) a, X.2.2.2.2.2))) else (false, X)
def rAcc (c : Int32) (X : xRd) : Bool × xRd :=
  if X.1 1 = nI 0 then (if c = nI 77 then (true, rOn (nI 1) X) else (false, X))
  else if X.1 1 = nI 1 then rHold c X
  else if X.1 1 = nI 2 then rPart c X
  else if X.1 1 = nI 3 then rThen (nI 4) (rTens (c - nI 48) (X.1 2) X)
  else if X.1 1 = nI 4 then (if (rOnes (c - nI 48) (X.1 2) X).1 = true then rTell (rOnes (c - nI 48) (X.1 2) X).2 else rOnes (c - nI 48) (X.1 2) X)
  else if X.1 1 = nI 5 then rThen (nI 6) (rAm1 (c - nI 48) X)
  else if X.1 1 = nI 6 then rThen (nI 7) (rAm2 (c - nI 48) X)
  else if X.1 1 = nI 7 then rThen (nI 2) (rAm3 (c - nI 48) X)
  else if X.1 1 = nI 8 then rThen (nI 9) (rTens (c - nI 48) (nI 0) X)
  else if X.1 1 = nI 9 then rThen (nI 10) (rOnes (c - nI 48) (nI 0) X)
  else if X.1 1 = nI 10 then rSect (c - nI 48) X
  else (false, X)
set_option maxHeartbeats 4000000 in
set_option maxRecDepth 100000 in
theorem C_X1_goOn {u f w1 w2 w3 w4 w5 : Nat → Int32} {q : Nat} (hq : RdS G T R q) {n : Int32} : xCon G Y_X1_goOn [.ref q, .int n] T R L (pm (va_up I q u) (q + 1) (f, w1, w2, w3, w4, w5)) (xD (some (.int (xb (((true, rOn n (u, (f, w1, w2, w3, w4, w5))) : Bool × xRd)).1))) T R L (pm (va_up I q (((true, rOn n (u, (f, w1, w2, w3, w4, w5))) : Bool × xRd)).2.1) (q + 1) (((true, rOn n (u, (f, w1, w2, w3, w4, w5))) : Bool × xRd)).2.2)) := by
  obtain ⟨z0, y0, hm⟩ := id hq
  obtain ⟨m0, r0, r1, r2, r3, r4, s1, s2, s3, s4, s5⟩ := id hm
  refine xCon.mk (xl := [some (.ref q), some (.int n)]) (by decide +kernel) (xle_r _) rfl (Nat.le_of_ble_eq_true rfl) rfl ?_
  refine xV_aload_n e_X1_goOn_0 rfl ?_
  refine xV_iload_n e_X1_goOn_1 rfl ?_
  refine xV_putU e_X1_goOn_2 p_X1_21 (by assumption) ?_
  refine xV_iconst (v := (nI 1)) e_X1_goOn_5 (by decide) ?_
  exact xV_zreturn e_X1_goOn_6 rfl rfl rfl ⟨rfl, rfl, rfl, rfl⟩
set_option maxHeartbeats 4000000 in
set_option maxRecDepth 100000 in
theorem C_X1_start {u f w1 w2 w3 w4 w5 : Nat → Int32} {q : Nat} (hq : RdS G T R q) : xCon G Y_X1_start [.ref q] T R L (pm (va_up I q u) (q + 1) (f, w1, w2, w3, w4, w5)) (xD none T R L (pm (va_up I q (upd (upd (upd u 1 (nI 0)) 2 (nI 0)) 3 (nI 0))) (q + 1) (clrF f, zr w1 12, zr w2 12, zr w3 12, zr w4 12, w5))) := by
  obtain ⟨z0, y0, hm⟩ := id hq
  obtain ⟨m0, r0, r1, r2, r3, r4, s1, s2, s3, s4, s5⟩ := id hm
  refine xCon.mk (xl := [some (.ref q)]) (by decide +kernel) (xle_r _) rfl (Nat.le_of_ble_eq_true rfl) rfl ?_
  refine xV_aload_n e_X1_start_0 rfl ?_
  refine xV_getR e_X1_start_1 f_X1_12 (by assumption) (by assumption) ?_
  refine xV_cV0v e_X1_start_4 c_X1_18 (by assumption) (C_X0_clear hm) (Nat.le_of_ble_eq_true rfl) ⟨(Nat.le_of_ble_eq_true rfl), (Nat.le_of_ble_eq_true rfl)⟩ (xle_r _) (xle_r _) ?_
  refine xV_aload_n e_X1_start_7 rfl ?_
  refine xV_iconst (v := (nI 0)) e_X1_start_8 (by decide) ?_
  refine xV_putU e_X1_start_9 p_X1_21 (by assumption) ?_
  refine xV_aload_n e_X1_start_12 rfl ?_
  refine xV_iconst (v := (nI 0)) e_X1_start_13 (by decide) ?_
  refine xV_putU e_X1_start_14 p_X1_25 (by assumption) ?_
  refine xV_aload_n e_X1_start_17 rfl ?_
  refine xV_iconst (v := (nI 0)) e_X1_start_18 (by decide) ?_
  refine xV_putU e_X1_start_19 p_X1_28 (by assumption) ?_
  exact xV_return e_X1_start_22 rfl rfl ⟨rfl, rfl, rfl, rfl⟩
set_option maxHeartbeats 4000000 in
set_option maxRecDepth 100000 in
theorem C_X1_mayEnd {u f w1 w2 w3 w4 w5 : Nat → Int32} {q : Nat} (hq : RdS G T R q) : xCon G Y_X1_mayEnd [.ref q] T R L (pm (va_up I q u) (q + 1) (f, w1, w2, w3, w4, w5)) (xD (some (.int (xb (decide (u 1 = nI 2))))) T R L (pm (va_up I q u) (q + 1) (f, w1, w2, w3, w4, w5))) := by
  obtain ⟨z0, y0, hm⟩ := id hq
  obtain ⟨m0, r0, r1, r2, r3, r4, s1, s2, s3, s4, s5⟩ := id hm
  refine xCon.mk (xl := [some (.ref q)]) (by decide +kernel) (xle_r _) rfl (Nat.le_of_ble_eq_true rfl) rfl ?_
  refine xV_aload_n e_X1_mayEnd_0 rfl ?_
  refine xV_getU e_X1_mayEnd_1 f_X1_21 (by assumption) ?_
  refine xV_iconst (v := (nI 2)) e_X1_mayEnd_4 (by decide) ?_
  refine xV_icmp_ne e_X1_mayEnd_5 (fun h5 => ?_) (fun h5 => ?_)
  · refine xV_iconst (v := (nI 0)) e_X1_mayEnd_12 (by decide) ?_
    exact xV_zreturn e_X1_mayEnd_13 rfl rfl rfl (by refine ⟨?_, rfl, rfl, ?_⟩ <;> simp [xbt, xbf, *])
  · refine xV_iconst (v := (nI 1)) e_X1_mayEnd_8 (by decide) ?_
    refine xV_goto e_X1_mayEnd_9 ?_
    exact xV_zreturn e_X1_mayEnd_13 rfl rfl rfl (by refine ⟨?_, rfl, rfl, ?_⟩ <;> simp [xbt, xbf, *])
set_option maxHeartbeats 4000000 in
set_option maxRecDepth 100000 in
theorem C_X1_acceptsHold {u f w1 w2 w3 w4 w5 : Nat → Int32} {q : Nat} (hq : RdS G T R q) {c : Int32} : xCon G Y_X1_acceptsHold [.ref q, .int c] T R L (pm (va_up I q u) (q + 1) (f, w1, w2, w3, w4, w5)) (xD (some (.int (xb (rHold c (u, (f, w1, w2, w3, w4, w5))).1))) T R L (pm (va_up I q (rHold c (u, (f, w1, w2, w3, w4, w5))).2.1) (q + 1) (rHold c (u, (f, w1, w2, w3, w4, w5))).2.2)) := by
  obtain ⟨z0, y0, hm⟩ := id hq
  obtain ⟨m0, r0, r1, r2, r3, r4, s1, s2, s3, s4, s5⟩ := id hm
  refine xCon.mk (xl := [some (.ref q), some (.int c)]) (by decide +kernel) (xle_r _) rfl (Nat.le_of_ble_eq_true rfl) rfl ?_
  refine xV_iload_n e_X1_acceptsHold_0 rfl ?_
  refine xV_bipush (v := (nI 49)) e_X1_acceptsHold_1 (by decide) ?_
  refine xV_icmp_lt e_X1_acceptsHold_3 (fun h3 => ?_) (fun h3 => ?_)
  · refine xV_iconst (v := (nI 0)) e_X1_acceptsHold_12 (by decide) ?_
    exact xV_zreturn e_X1_acceptsHold_13 rfl rfl rfl (by rw [rHold, if_pos h3]; exact ⟨rfl, rfl, rfl, rfl⟩)
  · refine xV_iload_n e_X1_acceptsHold_6 rfl ?_
    refine xV_bipush (v := (nI 57)) e_X1_acceptsHold_7 (by decide) ?_
    refine xV_icmp_le e_X1_acceptsHold_9 (fun h9 => ?_) (fun h9 => ?_)
    · refine xV_aload_n e_X1_acceptsHold_14 rfl ?_
      refine xV_getR e_X1_acceptsHold_15 f_X1_12 (by assumption) (by assumption) ?_
      refine xV_iload_n e_X1_acceptsHold_18 rfl ?_
      refine xV_bipush (v := (nI 48)) e_X1_acceptsHold_19 (by decide) ?_
      refine xV_isub e_X1_acceptsHold_21 ?_
      refine xV_putF e_X1_acceptsHold_22 p_X1_69 (by assumption) ?_
      refine xV_aload_n e_X1_acceptsHold_25 rfl ?_
      refine xV_iconst (v := (nI 2)) e_X1_acceptsHold_26 (by decide) ?_
      refine xV_cV1i e_X1_acceptsHold_27 c_X1_31 (by assumption) (C_X1_goOn hq) (Nat.le_of_ble_eq_true rfl) ⟨(Nat.le_of_ble_eq_true rfl), (Nat.le_of_ble_eq_true rfl)⟩ (xle_r _) (xle_r _) ?_
      exact xV_zreturn e_X1_acceptsHold_30 rfl (xb_nar _) rfl (by rw [rHold, if_neg h3, if_pos h9]; exact ⟨rfl, rfl, rfl, rfl⟩)
    · refine xV_iconst (v := (nI 0)) e_X1_acceptsHold_12 (by decide) ?_
      exact xV_zreturn e_X1_acceptsHold_13 rfl rfl rfl (by rw [rHold, if_neg h3, if_neg h9]; exact ⟨rfl, rfl, rfl, rfl⟩)
set_option maxHeartbeats 4000000 in
set_option maxRecDepth 100000 in
theorem C_X1_acceptsPart {u f w1 w2 w3 w4 w5 : Nat → Int32} {q : Nat} (hq : RdS G T R q) {c : Int32} : xCon G Y_X1_acceptsPart [.ref q, .int c] T R L (pm (va_up I q u) (q + 1) (f, w1, w2, w3, w4, w5)) (xD (some (.int (xb (rPart c (u, (f, w1, w2, w3, w4, w5))).1))) T R L (pm (va_up I q (rPart c (u, (f, w1, w2, w3, w4, w5))).2.1) (q + 1) (rPart c (u, (f, w1, w2, w3, w4, w5))).2.2)) := by
  obtain ⟨z0, y0, hm⟩ := id hq
  obtain ⟨m0, r0, r1, r2, r3, r4, s1, s2, s3, s4, s5⟩ := id hm
  refine xCon.mk (xl := [some (.ref q), some (.int c)]) (by decide +kernel) (xle_r _) rfl (Nat.le_of_ble_eq_true rfl) rfl ?_
  refine xV_iload_n e_X1_acceptsPart_0 rfl ?_
  refine xV_bipush (v := (nI 67)) e_X1_acceptsPart_1 (by decide) ?_
  refine xV_icmp_ne e_X1_acceptsPart_3 (fun h3 => ?_) (fun h3 => ?_)
  · refine xV_iload_n e_X1_acceptsPart_24 rfl ?_
    refine xV_bipush (v := (nI 75)) e_X1_acceptsPart_25 (by decide) ?_
    refine xV_icmp_ne e_X1_acceptsPart_27 (fun h27 => ?_) (fun h27 => ?_)
    · refine xV_iconst (v := (nI 0)) e_X1_acceptsPart_54 (by decide) ?_
      exact xV_zreturn e_X1_acceptsPart_55 rfl rfl rfl (by rw [rPart, if_neg (fun z => h3 z.1), if_neg (fun z => h27 z.1)]; exact ⟨rfl, rfl, rfl, rfl⟩)
    · refine xV_aload_n e_X1_acceptsPart_30 rfl ?_
      refine xV_getR e_X1_acceptsPart_31 f_X1_12 (by assumption) (by assumption) ?_
      refine xV_getF e_X1_acceptsPart_34 f_X1_78 (by assumption) ?_
      refine xV_iconst (v := (nI 4)) e_X1_acceptsPart_37 (by decide) ?_
      refine xV_icmp_ge e_X1_acceptsPart_38 (fun h38 => ?_) (fun h38 => ?_)
      · refine xV_iconst (v := (nI 0)) e_X1_acceptsPart_54 (by decide) ?_
        exact xV_zreturn e_X1_acceptsPart_55 rfl rfl rfl (by rw [rPart, if_neg (fun z => h3 z.1), if_neg (fun z => z.2 h38)]; exact ⟨rfl, rfl, rfl, rfl⟩)
      · refine xV_aload_n e_X1_acceptsPart_41 rfl ?_
        refine xV_bipush (v := (nI 8)) e_X1_acceptsPart_42 (by decide) ?_
        refine xV_cV1i e_X1_acceptsPart_44 c_X1_31 (by assumption) (C_X1_goOn hq) (Nat.le_of_ble_eq_true rfl) ⟨(Nat.le_of_ble_eq_true rfl), (Nat.le_of_ble_eq_true rfl)⟩ (xle_r _) (xle_r _) ?_
        refine xV_if_eqB e_X1_acceptsPart_47 (fun h47 => ?_) (fun h47 => ?_)
        · exact absurd (show true = false from h47) (by decide)
        · refine xV_iconst (v := (nI 1)) e_X1_acceptsPart_50 (by decide) ?_
          refine xV_goto e_X1_acceptsPart_51 ?_
          exact xV_zreturn e_X1_acceptsPart_55 rfl rfl rfl (by rw [rPart, if_neg (fun z => h3 z.1), if_pos ⟨h27, h38⟩]; exact ⟨rfl, rfl, rfl, rfl⟩)
  · refine xV_aload_n e_X1_acceptsPart_6 rfl ?_
    refine xV_getU e_X1_acceptsPart_7 f_X1_25 (by assumption) ?_
    refine xV_cS1i e_X1_acceptsPart_10 c_X1_72 (C_J6_bitCount_0f7a4) (Nat.le_of_ble_eq_true rfl) ⟨(Nat.le_of_ble_eq_true rfl), (Nat.le_of_ble_eq_true rfl)⟩ (xle_r _) (xle_r _) ?_
    refine xV_bipush (v := (nI 8)) e_X1_acceptsPart_13 (by decide) ?_
    refine xV_icmp_ge e_X1_acceptsPart_15 (fun h15 => ?_) (fun h15 => ?_)
    · refine xV_iload_n e_X1_acceptsPart_24 rfl ?_
      refine xV_bipush (v := (nI 75)) e_X1_acceptsPart_25 (by decide) ?_
      refine xV_icmp_ne e_X1_acceptsPart_27 (fun h27 => ?_) (fun h27 => ?_)
      · refine xV_iconst (v := (nI 0)) e_X1_acceptsPart_54 (by decide) ?_
        exact xV_zreturn e_X1_acceptsPart_55 rfl rfl rfl (by rw [rPart, if_neg (fun z => z.2 h15), if_neg (fun z => h27 z.1)]; exact ⟨rfl, rfl, rfl, rfl⟩)
      · refine xV_aload_n e_X1_acceptsPart_30 rfl ?_
        refine xV_getR e_X1_acceptsPart_31 f_X1_12 (by assumption) (by assumption) ?_
        refine xV_getF e_X1_acceptsPart_34 f_X1_78 (by assumption) ?_
        refine xV_iconst (v := (nI 4)) e_X1_acceptsPart_37 (by decide) ?_
        refine xV_icmp_ge e_X1_acceptsPart_38 (fun h38 => ?_) (fun h38 => ?_)
        · refine xV_iconst (v := (nI 0)) e_X1_acceptsPart_54 (by decide) ?_
          exact xV_zreturn e_X1_acceptsPart_55 rfl rfl rfl (by rw [rPart, if_neg (fun z => z.2 h15), if_neg (fun z => z.2 h38)]; exact ⟨rfl, rfl, rfl, rfl⟩)
        · refine xV_aload_n e_X1_acceptsPart_41 rfl ?_
          refine xV_bipush (v := (nI 8)) e_X1_acceptsPart_42 (by decide) ?_
          refine xV_cV1i e_X1_acceptsPart_44 c_X1_31 (by assumption) (C_X1_goOn hq) (Nat.le_of_ble_eq_true rfl) ⟨(Nat.le_of_ble_eq_true rfl), (Nat.le_of_ble_eq_true rfl)⟩ (xle_r _) (xle_r _) ?_
          refine xV_if_eqB e_X1_acceptsPart_47 (fun h47 => ?_) (fun h47 => ?_)
          · exact absurd (show true = false from h47) (by decide)
          · refine xV_iconst (v := (nI 1)) e_X1_acceptsPart_50 (by decide) ?_
            refine xV_goto e_X1_acceptsPart_51 ?_
            exact xV_zreturn e_X1_acceptsPart_55 rfl rfl rfl (by rw [rPart, if_neg (fun z => z.2 h15), if_pos ⟨h27, h38⟩]; exact ⟨rfl, rfl, rfl, rfl⟩)
    · refine xV_aload_n e_X1_acceptsPart_18 rfl ?_
      refine xV_iconst (v := (nI 3)) e_X1_acceptsPart_19 (by decide) ?_
      refine xV_cV1i e_X1_acceptsPart_20 c_X1_31 (by assumption) (C_X1_goOn hq) (Nat.le_of_ble_eq_true rfl) ⟨(Nat.le_of_ble_eq_true rfl), (Nat.le_of_ble_eq_true rfl)⟩ (xle_r _) (xle_r _) ?_
      exact xV_zreturn e_X1_acceptsPart_23 rfl (xb_nar _) rfl (by rw [rPart, if_pos ⟨h3, h15⟩]; exact ⟨rfl, rfl, rfl, rfl⟩)
set_option maxHeartbeats 4000000 in
set_option maxRecDepth 100000 in
theorem C_X1_acceptsTens {u f w1 w2 w3 w4 w5 : Nat → Int32} {q : Nat} (hq : RdS G T R q) {t b : Int32} : xCon G Y_X1_acceptsTens [.ref q, .int t, .int b] T R L (pm (va_up I q u) (q + 1) (f, w1, w2, w3, w4, w5)) (xD (some (.int (xb (rTens t b (u, (f, w1, w2, w3, w4, w5))).1))) T R L (pm (va_up I q (rTens t b (u, (f, w1, w2, w3, w4, w5))).2.1) (q + 1) (rTens t b (u, (f, w1, w2, w3, w4, w5))).2.2)) := by
  obtain ⟨z0, y0, hm⟩ := id hq
  obtain ⟨m0, r0, r1, r2, r3, r4, s1, s2, s3, s4, s5⟩ := id hm
  refine xCon.mk (xl := [some (.ref q), some (.int t), some (.int b), none]) (by decide +kernel) (xle_r _) rfl (Nat.le_of_ble_eq_true rfl) rfl ?_
  refine xV_iload_n e_X1_acceptsTens_0 rfl ?_
  refine xV_if_ne e_X1_acceptsTens_1 (fun h1 => ?_) (fun h1 => ?_)
  · refine xV_iload_n e_X1_acceptsTens_10 rfl ?_
    refine xV_iconst (v := (nI 1)) e_X1_acceptsTens_11 (by decide) ?_
    refine xV_icmp_ne e_X1_acceptsTens_12 (fun h12 => ?_) (fun h12 => ?_)
    · refine xV_iconst (v := (nI 0)) e_X1_acceptsTens_21 (by decide) ?_
      refine xV_istore_n e_X1_acceptsTens_22 (Nat.le_of_ble_eq_true rfl) rfl ?_
      refine xV_aload_n e_X1_acceptsTens_23 rfl ?_
      refine xV_bipush (v := (nI 10)) e_X1_acceptsTens_24 (by decide) ?_
      refine xV_iload_n e_X1_acceptsTens_26 rfl ?_
      refine xV_imul e_X1_acceptsTens_27 ?_
      refine xV_putU e_X1_acceptsTens_28 p_X1_28 (by assumption) ?_
      refine xV_iload_n e_X1_acceptsTens_31 rfl ?_
      refine xV_iload_n e_X1_acceptsTens_32 rfl ?_
      refine xV_iconst (v := (-1)) e_X1_acceptsTens_33 (by decide) ?_
      refine xV_ixor e_X1_acceptsTens_34 ?_
      refine xV_iand e_X1_acceptsTens_35 ?_
      refine xV_if_eq e_X1_acceptsTens_36 (fun h36 => ?_) (fun h36 => ?_)
      · refine xV_iconst (v := (nI 0)) e_X1_acceptsTens_43 (by decide) ?_
        exact xV_zreturn e_X1_acceptsTens_44 rfl rfl rfl ⟨xret_f (decide_eq_false (fun z => z (by rw [show tCells t = nI 0 from by rw [tCells, if_neg h1, if_neg h12]]; exact h36))), rfl, rfl, rfl⟩
      · refine xV_iconst (v := (nI 1)) e_X1_acceptsTens_39 (by decide) ?_
        refine xV_goto e_X1_acceptsTens_40 ?_
        exact xV_zreturn e_X1_acceptsTens_44 rfl rfl rfl ⟨xret_t (decide_eq_true (by rw [show tCells t = nI 0 from by rw [tCells, if_neg h1, if_neg h12]]; exact h36)), rfl, rfl, rfl⟩
    · refine xV_sipush (v := (nI 3072)) e_X1_acceptsTens_15 (by decide) ?_
      refine xV_goto e_X1_acceptsTens_18 ?_
      refine xV_istore_n e_X1_acceptsTens_22 (Nat.le_of_ble_eq_true rfl) rfl ?_
      refine xV_aload_n e_X1_acceptsTens_23 rfl ?_
      refine xV_bipush (v := (nI 10)) e_X1_acceptsTens_24 (by decide) ?_
      refine xV_iload_n e_X1_acceptsTens_26 rfl ?_
      refine xV_imul e_X1_acceptsTens_27 ?_
      refine xV_putU e_X1_acceptsTens_28 p_X1_28 (by assumption) ?_
      refine xV_iload_n e_X1_acceptsTens_31 rfl ?_
      refine xV_iload_n e_X1_acceptsTens_32 rfl ?_
      refine xV_iconst (v := (-1)) e_X1_acceptsTens_33 (by decide) ?_
      refine xV_ixor e_X1_acceptsTens_34 ?_
      refine xV_iand e_X1_acceptsTens_35 ?_
      refine xV_if_eq e_X1_acceptsTens_36 (fun h36 => ?_) (fun h36 => ?_)
      · refine xV_iconst (v := (nI 0)) e_X1_acceptsTens_43 (by decide) ?_
        exact xV_zreturn e_X1_acceptsTens_44 rfl rfl rfl ⟨xret_f (decide_eq_false (fun z => z (by rw [show tCells t = nI 3072 from by rw [tCells, if_neg h1, if_pos h12]]; exact h36))), rfl, rfl, rfl⟩
      · refine xV_iconst (v := (nI 1)) e_X1_acceptsTens_39 (by decide) ?_
        refine xV_goto e_X1_acceptsTens_40 ?_
        exact xV_zreturn e_X1_acceptsTens_44 rfl rfl rfl ⟨xret_t (decide_eq_true (by rw [show tCells t = nI 3072 from by rw [tCells, if_neg h1, if_pos h12]]; exact h36)), rfl, rfl, rfl⟩
  · refine xV_sipush (v := (nI 1023)) e_X1_acceptsTens_4 (by decide) ?_
    refine xV_goto e_X1_acceptsTens_7 ?_
    refine xV_istore_n e_X1_acceptsTens_22 (Nat.le_of_ble_eq_true rfl) rfl ?_
    refine xV_aload_n e_X1_acceptsTens_23 rfl ?_
    refine xV_bipush (v := (nI 10)) e_X1_acceptsTens_24 (by decide) ?_
    refine xV_iload_n e_X1_acceptsTens_26 rfl ?_
    refine xV_imul e_X1_acceptsTens_27 ?_
    refine xV_putU e_X1_acceptsTens_28 p_X1_28 (by assumption) ?_
    refine xV_iload_n e_X1_acceptsTens_31 rfl ?_
    refine xV_iload_n e_X1_acceptsTens_32 rfl ?_
    refine xV_iconst (v := (-1)) e_X1_acceptsTens_33 (by decide) ?_
    refine xV_ixor e_X1_acceptsTens_34 ?_
    refine xV_iand e_X1_acceptsTens_35 ?_
    refine xV_if_eq e_X1_acceptsTens_36 (fun h36 => ?_) (fun h36 => ?_)
    · refine xV_iconst (v := (nI 0)) e_X1_acceptsTens_43 (by decide) ?_
      exact xV_zreturn e_X1_acceptsTens_44 rfl rfl rfl ⟨xret_f (decide_eq_false (fun z => z (by rw [show tCells t = nI 1023 from if_pos h1]; exact h36))), rfl, rfl, rfl⟩
    · refine xV_iconst (v := (nI 1)) e_X1_acceptsTens_39 (by decide) ?_
      refine xV_goto e_X1_acceptsTens_40 ?_
      exact xV_zreturn e_X1_acceptsTens_44 rfl rfl rfl ⟨xret_t (decide_eq_true (by rw [show tCells t = nI 1023 from if_pos h1]; exact h36)), rfl, rfl, rfl⟩
set_option maxHeartbeats 4000000 in
set_option maxRecDepth 100000 in
theorem C_X1_acceptsOnes {u f w1 w2 w3 w4 w5 : Nat → Int32} {q : Nat} (hq : RdS G T R q) {t b : Int32} : xCon G Y_X1_acceptsOnes [.ref q, .int t, .int b] T R L (pm (va_up I q u) (q + 1) (f, w1, w2, w3, w4, w5)) (xD (some (.int (xb (rOnes t b (u, (f, w1, w2, w3, w4, w5))).1))) T R L (pm (va_up I q (rOnes t b (u, (f, w1, w2, w3, w4, w5))).2.1) (q + 1) (rOnes t b (u, (f, w1, w2, w3, w4, w5))).2.2)) := by
  obtain ⟨z0, y0, hm⟩ := id hq
  obtain ⟨m0, r0, r1, r2, r3, r4, s1, s2, s3, s4, s5⟩ := id hm
  refine xCon.mk (xl := [some (.ref q), some (.int t), some (.int b)]) (by decide +kernel) (xle_r _) rfl (Nat.le_of_ble_eq_true rfl) rfl ?_
  refine xV_aload_n e_X1_acceptsOnes_0 rfl ?_
  refine xV_dup e_X1_acceptsOnes_1 rfl ?_
  refine xV_getU e_X1_acceptsOnes_2 f_X1_28 (by assumption) ?_
  refine xV_iload_n e_X1_acceptsOnes_5 rfl ?_
  refine xV_iadd e_X1_acceptsOnes_6 ?_
  refine xV_putU e_X1_acceptsOnes_7 p_X1_28 (by assumption) ?_
  refine xV_iload_n e_X1_acceptsOnes_10 rfl ?_
  refine xV_if_lt e_X1_acceptsOnes_11 (fun h11 => ?_) (fun h11 => ?_)
  · refine xV_iconst (v := (nI 0)) e_X1_acceptsOnes_45 (by decide) ?_
    exact xV_zreturn e_X1_acceptsOnes_46 rfl rfl rfl ⟨xret_f (by show (if t < 0 then false else if nI 9 < t then false else bCell (u 3 + t) && !hs b (u 3 + t)) = false; rw [if_pos h11]), rfl, rfl, rfl⟩
  · refine xV_iload_n e_X1_acceptsOnes_14 rfl ?_
    refine xV_bipush (v := (nI 9)) e_X1_acceptsOnes_15 (by decide) ?_
    refine xV_icmp_gt e_X1_acceptsOnes_17 (fun h17 => ?_) (fun h17 => ?_)
    · refine xV_iconst (v := (nI 0)) e_X1_acceptsOnes_45 (by decide) ?_
      exact xV_zreturn e_X1_acceptsOnes_46 rfl rfl rfl ⟨xret_f (by show (if t < 0 then false else if nI 9 < t then false else bCell (u 3 + t) && !hs b (u 3 + t)) = false; rw [if_neg h11, if_pos h17]), rfl, rfl, rfl⟩
    · refine xV_aload_n e_X1_acceptsOnes_20 rfl ?_
      refine xV_getU e_X1_acceptsOnes_21 f_X1_28 (by assumption) ?_
      refine xV_cS1i e_X1_acceptsOnes_24 c_X1_81 (C_X2_isCell) (Nat.le_of_ble_eq_true rfl) ⟨(Nat.le_of_ble_eq_true rfl), (Nat.le_of_ble_eq_true rfl)⟩ (xle_r _) (xle_r _) ?_
      refine xV_if_eqB e_X1_acceptsOnes_27 (fun h27 => ?_) (fun h27 => ?_)
      · refine xV_iconst (v := (nI 0)) e_X1_acceptsOnes_45 (by decide) ?_
        exact xV_zreturn e_X1_acceptsOnes_46 rfl rfl rfl ⟨xret_f (by show (if t < 0 then false else if nI 9 < t then false else bCell (u 3 + t) && !hs b (u 3 + t)) = false; have k27 : bCell (u 3 + t) = false := h27; rw [if_neg h11, if_neg h17, k27]; rfl), rfl, rfl, rfl⟩
      · refine xV_iload_n e_X1_acceptsOnes_30 rfl ?_
        refine xV_aload_n e_X1_acceptsOnes_31 rfl ?_
        refine xV_getU e_X1_acceptsOnes_32 f_X1_28 (by assumption) ?_
        refine xV_cS2i e_X1_acceptsOnes_35 c_X1_84 (C_X2_has) (Nat.le_of_ble_eq_true rfl) ⟨(Nat.le_of_ble_eq_true rfl), (Nat.le_of_ble_eq_true rfl)⟩ (xle_r _) (xle_r _) ?_
        refine xV_if_neB e_X1_acceptsOnes_38 (fun h38 => ?_) (fun h38 => ?_)
        · refine xV_iconst (v := (nI 0)) e_X1_acceptsOnes_45 (by decide) ?_
          exact xV_zreturn e_X1_acceptsOnes_46 rfl rfl rfl ⟨xret_f (by show (if t < 0 then false else if nI 9 < t then false else bCell (u 3 + t) && !hs b (u 3 + t)) = false; have k27 : bCell (u 3 + t) = true := h27; have k38 : hs b (u 3 + t) = true := h38; rw [if_neg h11, if_neg h17, k27, k38]; rfl), rfl, rfl, rfl⟩
        · refine xV_iconst (v := (nI 1)) e_X1_acceptsOnes_41 (by decide) ?_
          refine xV_goto e_X1_acceptsOnes_42 ?_
          exact xV_zreturn e_X1_acceptsOnes_46 rfl rfl rfl ⟨xret_t (by show (if t < 0 then false else if nI 9 < t then false else bCell (u 3 + t) && !hs b (u 3 + t)) = true; have k27 : bCell (u 3 + t) = true := h27; have k38 : hs b (u 3 + t) = false := h38; rw [if_neg h11, if_neg h17, k27, k38]; rfl), rfl, rfl, rfl⟩
set_option maxHeartbeats 4000000 in
set_option maxRecDepth 100000 in
theorem C_X1_tell {u f w1 w2 w3 w4 w5 : Nat → Int32} {q : Nat} (hq : RdS G T R q)  : xCon G Y_X1_tell [.ref q] T R L (pm (va_up I q u) (q + 1) (f, w1, w2, w3, w4, w5)) (xD (some (.int (xb (rTell (u, (f, w1, w2, w3, w4, w5))).1))) T R L (pm (va_up I q (rTell (u, (f, w1, w2, w3, w4, w5))).2.1) (q + 1) (rTell (u, (f, w1, w2, w3, w4, w5))).2.2)) := by
  obtain ⟨z0, y0, hm⟩ := id hq
  obtain ⟨m0, r0, r1, r2, r3, r4, s1, s2, s3, s4, s5⟩ := id hm
  refine xCon.mk (xl := [some (.ref q)]) (by decide +kernel) (xle_r _) rfl (Nat.le_of_ble_eq_true rfl) rfl ?_
  refine xV_aload_n e_X1_tell_0 rfl ?_
  refine xV_dup e_X1_tell_1 rfl ?_
  refine xV_getU e_X1_tell_2 f_X1_25 (by assumption) ?_
  refine xV_iconst (v := (nI 1)) e_X1_tell_5 (by decide) ?_
  refine xV_aload_n e_X1_tell_6 rfl ?_
  refine xV_getU e_X1_tell_7 f_X1_28 (by assumption) ?_
  refine xV_ishl e_X1_tell_10 ?_
  refine xV_ior e_X1_tell_11 ?_
  refine xV_putU e_X1_tell_12 p_X1_25 (by assumption) ?_
  refine xV_aload_n e_X1_tell_15 rfl ?_
  refine xV_iconst (v := (nI 5)) e_X1_tell_16 (by decide) ?_
  refine xV_cV1i e_X1_tell_17 c_X1_31 (by assumption) (C_X1_goOn hq) (Nat.le_of_ble_eq_true rfl) ⟨(Nat.le_of_ble_eq_true rfl), (Nat.le_of_ble_eq_true rfl)⟩ (xle_r _) (xle_r _) ?_
  exact xV_zreturn e_X1_tell_20 rfl (xb_nar _) rfl ⟨rfl, rfl, rfl, rfl⟩
set_option maxHeartbeats 4000000 in
set_option maxRecDepth 100000 in
theorem C_X1_acceptsSect {u f w1 w2 w3 w4 w5 : Nat → Int32} {q : Nat} (hq : RdS G T R q) {s : Int32} : xCon G Y_X1_acceptsSect [.ref q, .int s] T R L (pm (va_up I q u) (q + 1) (f, w1, w2, w3, w4, w5)) (xD (some (.int (xb (rSect s (u, (f, w1, w2, w3, w4, w5))).1))) T R L (pm (va_up I q (rSect s (u, (f, w1, w2, w3, w4, w5))).2.1) (q + 1) (rSect s (u, (f, w1, w2, w3, w4, w5))).2.2)) := by
  obtain ⟨z0, y0, hm⟩ := id hq
  obtain ⟨m0, r0, r1, r2, r3, r4, s1, s2, s3, s4, s5⟩ := id hm
  refine xCon.mk (xl := [some (.ref q), some (.int s)]) (by decide +kernel) (xle_r _) rfl (Nat.le_of_ble_eq_true rfl) rfl ?_
  refine xV_iload_n e_X1_acceptsSect_0 rfl ?_
  refine xV_if_eq e_X1_acceptsSect_1 (fun h1 => ?_) (fun h1 => ?_)
  · refine xV_aload_n e_X1_acceptsSect_11 rfl ?_
    refine xV_getR e_X1_acceptsSect_12 f_X1_12 (by assumption) (by assumption) ?_
    refine xV_aload_n e_X1_acceptsSect_15 rfl ?_
    refine xV_getU e_X1_acceptsSect_16 f_X1_28 (by assumption) ?_
    refine xV_iload_n e_X1_acceptsSect_19 rfl ?_
    refine xV_cV2v e_X1_acceptsSect_20 c_X1_91 (by assumption) (C_X0_addMonkG hm) (Nat.le_of_ble_eq_true rfl) ⟨(Nat.le_of_ble_eq_true rfl), (Nat.le_of_ble_eq_true rfl)⟩ (xle_r _) (xle_r _) ?_
    refine xV_aload_n e_X1_acceptsSect_23 rfl ?_
    refine xV_iconst (v := (nI 2)) e_X1_acceptsSect_24 (by decide) ?_
    refine xV_cV1i e_X1_acceptsSect_25 c_X1_31 (by assumption) (C_X1_goOn hq) (Nat.le_of_ble_eq_true rfl) ⟨(Nat.le_of_ble_eq_true rfl), (Nat.le_of_ble_eq_true rfl)⟩ (xle_r _) (xle_r _) ?_
    exact xV_zreturn e_X1_acceptsSect_28 rfl (xb_nar _) rfl (by rw [rSect, if_pos (Or.inl h1)]; exact ⟨rfl, rfl, rfl, rfl⟩)
  · refine xV_iload_n e_X1_acceptsSect_4 rfl ?_
    refine xV_iconst (v := (nI 1)) e_X1_acceptsSect_5 (by decide) ?_
    refine xV_icmp_eq e_X1_acceptsSect_6 (fun h6 => ?_) (fun h6 => ?_)
    · refine xV_aload_n e_X1_acceptsSect_11 rfl ?_
      refine xV_getR e_X1_acceptsSect_12 f_X1_12 (by assumption) (by assumption) ?_
      refine xV_aload_n e_X1_acceptsSect_15 rfl ?_
      refine xV_getU e_X1_acceptsSect_16 f_X1_28 (by assumption) ?_
      refine xV_iload_n e_X1_acceptsSect_19 rfl ?_
      refine xV_cV2v e_X1_acceptsSect_20 c_X1_91 (by assumption) (C_X0_addMonkG hm) (Nat.le_of_ble_eq_true rfl) ⟨(Nat.le_of_ble_eq_true rfl), (Nat.le_of_ble_eq_true rfl)⟩ (xle_r _) (xle_r _) ?_
      refine xV_aload_n e_X1_acceptsSect_23 rfl ?_
      refine xV_iconst (v := (nI 2)) e_X1_acceptsSect_24 (by decide) ?_
      refine xV_cV1i e_X1_acceptsSect_25 c_X1_31 (by assumption) (C_X1_goOn hq) (Nat.le_of_ble_eq_true rfl) ⟨(Nat.le_of_ble_eq_true rfl), (Nat.le_of_ble_eq_true rfl)⟩ (xle_r _) (xle_r _) ?_
      exact xV_zreturn e_X1_acceptsSect_28 rfl (xb_nar _) rfl (by rw [rSect, if_pos (Or.inr h6)]; exact ⟨rfl, rfl, rfl, rfl⟩)
    · refine xV_iconst (v := (nI 0)) e_X1_acceptsSect_9 (by decide) ?_
      exact xV_zreturn e_X1_acceptsSect_10 rfl rfl rfl (by rw [rSect, if_neg (fun z => z.elim h1 h6)]; exact ⟨rfl, rfl, rfl, rfl⟩)
set_option maxHeartbeats 4000000 in
set_option maxRecDepth 100000 in
theorem C_X1_acceptsAmount1 {u f w1 w2 w3 w4 w5 : Nat → Int32} {q : Nat} (hq : RdS G T R q) {a : Int32} : xCon G Y_X1_acceptsAmount [.ref q, .ref (q + 1 + 1), .int a] T R L (pm (va_up I q u) (q + 1) (f, w1, w2, w3, w4, w5)) (xD (some (.int (xb (rAm1 a (u, (f, w1, w2, w3, w4, w5))).1))) T R L (pm (va_up I q (rAm1 a (u, (f, w1, w2, w3, w4, w5))).2.1) (q + 1) (rAm1 a (u, (f, w1, w2, w3, w4, w5))).2.2)) := by
  obtain ⟨z0, y0, hm⟩ := id hq
  obtain ⟨m0, r0, r1, r2, r3, r4, s1, s2, s3, s4, s5⟩ := id hm
  refine xCon.mk (xl := [some (.ref q), some (.ref (q + 1 + 1)), some (.int a)]) (by decide +kernel) (xle_r _) rfl (Nat.le_of_ble_eq_true rfl) rfl ?_
  refine xV_iload_n e_X1_acceptsAmount_0 rfl ?_
  refine xV_if_lt e_X1_acceptsAmount_1 (fun h1 => ?_) (fun h1 => ?_)
  · refine xV_iconst (v := (nI 0)) e_X1_acceptsAmount_10 (by decide) ?_
    exact xV_zreturn e_X1_acceptsAmount_11 rfl rfl rfl (by rw [rAm1, if_neg (by simp [bAm, h1])]; exact ⟨rfl, rfl, rfl, rfl⟩)
  · refine xV_iload_n e_X1_acceptsAmount_4 rfl ?_
    refine xV_bipush (v := (nI 9)) e_X1_acceptsAmount_5 (by decide) ?_
    refine xV_icmp_le e_X1_acceptsAmount_7 (fun h7 => ?_) (fun h7 => ?_)
    · refine xV_aload_n e_X1_acceptsAmount_12 rfl ?_
      refine xV_aload_n e_X1_acceptsAmount_13 rfl ?_
      refine xV_getU e_X1_acceptsAmount_14 f_X1_28 (by assumption) ?_
      refine xV_iload_n e_X1_acceptsAmount_17 rfl ?_
      refine xV_cS3v e_X1_acceptsAmount_18 c_X1_87 (C_X2_putB1 s1) (Nat.le_of_ble_eq_true rfl) ⟨(Nat.le_of_ble_eq_true rfl), (Nat.le_of_ble_eq_true rfl)⟩ (xle_r _) (xle_r _) ?_
      refine xV_iconst (v := (nI 1)) e_X1_acceptsAmount_21 (by decide) ?_
      exact xV_zreturn e_X1_acceptsAmount_22 rfl rfl rfl (by rw [rAm1, if_pos (by simp only [bAm, decide_eq_false h1, decide_eq_true h7]; decide)]; exact ⟨rfl, rfl, rfl, rfl⟩)
    · refine xV_iconst (v := (nI 0)) e_X1_acceptsAmount_10 (by decide) ?_
      exact xV_zreturn e_X1_acceptsAmount_11 rfl rfl rfl (by rw [rAm1, if_neg (by simp only [bAm, decide_eq_false h7, Bool.and_false]; decide)]; exact ⟨rfl, rfl, rfl, rfl⟩)
set_option maxHeartbeats 4000000 in
set_option maxRecDepth 100000 in
theorem C_X1_acceptsAmount2 {u f w1 w2 w3 w4 w5 : Nat → Int32} {q : Nat} (hq : RdS G T R q) {a : Int32} : xCon G Y_X1_acceptsAmount [.ref q, .ref (q + 1 + 2), .int a] T R L (pm (va_up I q u) (q + 1) (f, w1, w2, w3, w4, w5)) (xD (some (.int (xb (rAm2 a (u, (f, w1, w2, w3, w4, w5))).1))) T R L (pm (va_up I q (rAm2 a (u, (f, w1, w2, w3, w4, w5))).2.1) (q + 1) (rAm2 a (u, (f, w1, w2, w3, w4, w5))).2.2)) := by
  obtain ⟨z0, y0, hm⟩ := id hq
  obtain ⟨m0, r0, r1, r2, r3, r4, s1, s2, s3, s4, s5⟩ := id hm
  refine xCon.mk (xl := [some (.ref q), some (.ref (q + 1 + 2)), some (.int a)]) (by decide +kernel) (xle_r _) rfl (Nat.le_of_ble_eq_true rfl) rfl ?_
  refine xV_iload_n e_X1_acceptsAmount_0 rfl ?_
  refine xV_if_lt e_X1_acceptsAmount_1 (fun h1 => ?_) (fun h1 => ?_)
  · refine xV_iconst (v := (nI 0)) e_X1_acceptsAmount_10 (by decide) ?_
    exact xV_zreturn e_X1_acceptsAmount_11 rfl rfl rfl (by rw [rAm2, if_neg (by simp [bAm, h1])]; exact ⟨rfl, rfl, rfl, rfl⟩)
  · refine xV_iload_n e_X1_acceptsAmount_4 rfl ?_
    refine xV_bipush (v := (nI 9)) e_X1_acceptsAmount_5 (by decide) ?_
    refine xV_icmp_le e_X1_acceptsAmount_7 (fun h7 => ?_) (fun h7 => ?_)
    · refine xV_aload_n e_X1_acceptsAmount_12 rfl ?_
      refine xV_aload_n e_X1_acceptsAmount_13 rfl ?_
      refine xV_getU e_X1_acceptsAmount_14 f_X1_28 (by assumption) ?_
      refine xV_iload_n e_X1_acceptsAmount_17 rfl ?_
      refine xV_cS3v e_X1_acceptsAmount_18 c_X1_87 (C_X2_putB2 s2) (Nat.le_of_ble_eq_true rfl) ⟨(Nat.le_of_ble_eq_true rfl), (Nat.le_of_ble_eq_true rfl)⟩ (xle_r _) (xle_r _) ?_
      refine xV_iconst (v := (nI 1)) e_X1_acceptsAmount_21 (by decide) ?_
      exact xV_zreturn e_X1_acceptsAmount_22 rfl rfl rfl (by rw [rAm2, if_pos (by simp only [bAm, decide_eq_false h1, decide_eq_true h7]; decide)]; exact ⟨rfl, rfl, rfl, rfl⟩)
    · refine xV_iconst (v := (nI 0)) e_X1_acceptsAmount_10 (by decide) ?_
      exact xV_zreturn e_X1_acceptsAmount_11 rfl rfl rfl (by rw [rAm2, if_neg (by simp only [bAm, decide_eq_false h7, Bool.and_false]; decide)]; exact ⟨rfl, rfl, rfl, rfl⟩)
set_option maxHeartbeats 4000000 in
set_option maxRecDepth 100000 in
theorem C_X1_acceptsAmount3 {u f w1 w2 w3 w4 w5 : Nat → Int32} {q : Nat} (hq : RdS G T R q) {a : Int32} : xCon G Y_X1_acceptsAmount [.ref q, .ref (q + 1 + 3), .int a] T R L (pm (va_up I q u) (q + 1) (f, w1, w2, w3, w4, w5)) (xD (some (.int (xb (rAm3 a (u, (f, w1, w2, w3, w4, w5))).1))) T R L (pm (va_up I q (rAm3 a (u, (f, w1, w2, w3, w4, w5))).2.1) (q + 1) (rAm3 a (u, (f, w1, w2, w3, w4, w5))).2.2)) := by
  obtain ⟨z0, y0, hm⟩ := id hq
  obtain ⟨m0, r0, r1, r2, r3, r4, s1, s2, s3, s4, s5⟩ := id hm
  refine xCon.mk (xl := [some (.ref q), some (.ref (q + 1 + 3)), some (.int a)]) (by decide +kernel) (xle_r _) rfl (Nat.le_of_ble_eq_true rfl) rfl ?_
  refine xV_iload_n e_X1_acceptsAmount_0 rfl ?_
  refine xV_if_lt e_X1_acceptsAmount_1 (fun h1 => ?_) (fun h1 => ?_)
  · refine xV_iconst (v := (nI 0)) e_X1_acceptsAmount_10 (by decide) ?_
    exact xV_zreturn e_X1_acceptsAmount_11 rfl rfl rfl (by rw [rAm3, if_neg (by simp [bAm, h1])]; exact ⟨rfl, rfl, rfl, rfl⟩)
  · refine xV_iload_n e_X1_acceptsAmount_4 rfl ?_
    refine xV_bipush (v := (nI 9)) e_X1_acceptsAmount_5 (by decide) ?_
    refine xV_icmp_le e_X1_acceptsAmount_7 (fun h7 => ?_) (fun h7 => ?_)
    · refine xV_aload_n e_X1_acceptsAmount_12 rfl ?_
      refine xV_aload_n e_X1_acceptsAmount_13 rfl ?_
      refine xV_getU e_X1_acceptsAmount_14 f_X1_28 (by assumption) ?_
      refine xV_iload_n e_X1_acceptsAmount_17 rfl ?_
      refine xV_cS3v e_X1_acceptsAmount_18 c_X1_87 (C_X2_putB3 s3) (Nat.le_of_ble_eq_true rfl) ⟨(Nat.le_of_ble_eq_true rfl), (Nat.le_of_ble_eq_true rfl)⟩ (xle_r _) (xle_r _) ?_
      refine xV_iconst (v := (nI 1)) e_X1_acceptsAmount_21 (by decide) ?_
      exact xV_zreturn e_X1_acceptsAmount_22 rfl rfl rfl (by rw [rAm3, if_pos (by simp only [bAm, decide_eq_false h1, decide_eq_true h7]; decide)]; exact ⟨rfl, rfl, rfl, rfl⟩)
    · refine xV_iconst (v := (nI 0)) e_X1_acceptsAmount_10 (by decide) ?_
      exact xV_zreturn e_X1_acceptsAmount_11 rfl rfl rfl (by rw [rAm3, if_neg (by simp only [bAm, decide_eq_false h7, Bool.and_false]; decide)]; exact ⟨rfl, rfl, rfl, rfl⟩)
set_option maxHeartbeats 4000000 in
set_option maxRecDepth 100000 in
theorem C_X1_accepts {u f w1 w2 w3 w4 w5 : Nat → Int32} {q : Nat} (hq : RdS G T R q) {c : Int32} : xCon G Y_X1_accepts [.ref q, .int c] T R L (pm (va_up I q u) (q + 1) (f, w1, w2, w3, w4, w5)) (xD (some (.int (xb (rAcc c (u, (f, w1, w2, w3, w4, w5))).1))) T R L (pm (va_up I q (rAcc c (u, (f, w1, w2, w3, w4, w5))).2.1) (q + 1) (rAcc c (u, (f, w1, w2, w3, w4, w5))).2.2)) := by
  obtain ⟨z0, y0, hm⟩ := id hq
  obtain ⟨m0, r0, r1, r2, r3, r4, s1, s2, s3, s4, s5⟩ := id hm
  refine xCon.mk (xl := [some (.ref q), some (.int c)]) (by decide +kernel) (xle_r _) rfl (Nat.le_of_ble_eq_true rfl) rfl ?_
  refine xV_aload_n e_X1_accepts_0 rfl ?_
  refine xV_getU e_X1_accepts_1 f_X1_21 (by assumption) ?_
  by_cases s4_0 : u 1 = nI 0
  · refine xV_tswIn (off := 60) (tgt := 64) e_X1_accepts_4 (by rw [s4_0]; decide) (by rw [s4_0]; decide) (by rw [s4_0]; rfl) (by decide) ?_
    refine xV_iload_n e_X1_accepts_64 rfl ?_
    refine xV_bipush (v := (nI 77)) e_X1_accepts_65 (by decide) ?_
    refine xV_icmp_ne e_X1_accepts_67 (fun h67 => ?_) (fun h67 => ?_)
    · refine xV_iconst (v := (nI 0)) e_X1_accepts_82 (by decide) ?_
      exact xV_zreturn e_X1_accepts_83 rfl rfl rfl (by rw [rAcc, if_pos s4_0, if_neg h67]; exact ⟨rfl, rfl, rfl, rfl⟩)
    · refine xV_aload_n e_X1_accepts_70 rfl ?_
      refine xV_iconst (v := (nI 1)) e_X1_accepts_71 (by decide) ?_
      refine xV_cV1i e_X1_accepts_72 c_X1_31 (by assumption) (C_X1_goOn hq) (Nat.le_of_ble_eq_true rfl) ⟨(Nat.le_of_ble_eq_true rfl), (Nat.le_of_ble_eq_true rfl)⟩ (xle_r _) (xle_r _) ?_
      refine xV_if_eqB e_X1_accepts_75 (fun h75 => ?_) (fun h75 => ?_)
      · exact absurd (show true = false from h75) (by decide)
      · refine xV_iconst (v := (nI 1)) e_X1_accepts_78 (by decide) ?_
        refine xV_goto e_X1_accepts_79 ?_
        exact xV_zreturn e_X1_accepts_83 rfl rfl rfl (by rw [rAcc, if_pos s4_0, if_pos h67]; exact ⟨rfl, rfl, rfl, rfl⟩)
  by_cases s4_1 : u 1 = nI 1
  · refine xV_tswIn (off := 80) (tgt := 84) e_X1_accepts_4 (by rw [s4_1]; decide) (by rw [s4_1]; decide) (by rw [s4_1]; rfl) (by decide) ?_
    refine xV_aload_n e_X1_accepts_84 rfl ?_
    refine xV_iload_n e_X1_accepts_85 rfl ?_
    refine xV_cV1i e_X1_accepts_86 c_X1_35 (by assumption) (C_X1_acceptsHold hq) (Nat.le_of_ble_eq_true rfl) ⟨(Nat.le_of_ble_eq_true rfl), (Nat.le_of_ble_eq_true rfl)⟩ (xle_r _) (xle_r _) ?_
    exact xV_zreturn e_X1_accepts_89 rfl (xb_nar _) rfl (by rw [rAcc, if_neg s4_0, if_pos s4_1]; exact ⟨rfl, rfl, rfl, rfl⟩)
  by_cases s4_2 : u 1 = nI 2
  · refine xV_tswIn (off := 86) (tgt := 90) e_X1_accepts_4 (by rw [s4_2]; decide) (by rw [s4_2]; decide) (by rw [s4_2]; rfl) (by decide) ?_
    refine xV_aload_n e_X1_accepts_90 rfl ?_
    refine xV_iload_n e_X1_accepts_91 rfl ?_
    refine xV_cV1i e_X1_accepts_92 c_X1_38 (by assumption) (C_X1_acceptsPart hq) (Nat.le_of_ble_eq_true rfl) ⟨(Nat.le_of_ble_eq_true rfl), (Nat.le_of_ble_eq_true rfl)⟩ (xle_r _) (xle_r _) ?_
    exact xV_zreturn e_X1_accepts_95 rfl (xb_nar _) rfl (by rw [rAcc, if_neg s4_0, if_neg s4_1, if_pos s4_2]; exact ⟨rfl, rfl, rfl, rfl⟩)
  by_cases s4_3 : u 1 = nI 3
  · refine xV_tswIn (off := 92) (tgt := 96) e_X1_accepts_4 (by rw [s4_3]; decide) (by rw [s4_3]; decide) (by rw [s4_3]; rfl) (by decide) ?_
    refine xV_aload_n e_X1_accepts_96 rfl ?_
    refine xV_iload_n e_X1_accepts_97 rfl ?_
    refine xV_bipush (v := (nI 48)) e_X1_accepts_98 (by decide) ?_
    refine xV_isub e_X1_accepts_100 ?_
    refine xV_aload_n e_X1_accepts_101 rfl ?_
    refine xV_getU e_X1_accepts_102 f_X1_25 (by assumption) ?_
    refine xV_cV2i e_X1_accepts_105 c_X1_41 (by assumption) (C_X1_acceptsTens hq) (Nat.le_of_ble_eq_true rfl) ⟨(Nat.le_of_ble_eq_true rfl), (Nat.le_of_ble_eq_true rfl)⟩ (xle_r _) (xle_r _) ?_
    refine xV_if_eqB e_X1_accepts_108 (fun h108 => ?_) (fun h108 => ?_)
    · refine xV_iconst (v := (nI 0)) e_X1_accepts_123 (by decide) ?_
      exact xV_zreturn e_X1_accepts_124 rfl rfl rfl (by rw [rAcc, if_neg s4_0, if_neg s4_1, if_neg s4_2, if_pos s4_3, rThen, if_neg (by rw [h108]; decide)]; exact ⟨xret_f h108, rfl, rfl, rfl⟩)
    · refine xV_aload_n e_X1_accepts_111 rfl ?_
      refine xV_iconst (v := (nI 4)) e_X1_accepts_112 (by decide) ?_
      refine xV_cV1i e_X1_accepts_113 c_X1_31 (by assumption) (C_X1_goOn hq) (Nat.le_of_ble_eq_true rfl) ⟨(Nat.le_of_ble_eq_true rfl), (Nat.le_of_ble_eq_true rfl)⟩ (xle_r _) (xle_r _) ?_
      refine xV_if_eqB e_X1_accepts_116 (fun h116 => ?_) (fun h116 => ?_)
      · exact absurd (show true = false from h116) (by decide)
      · refine xV_iconst (v := (nI 1)) e_X1_accepts_119 (by decide) ?_
        refine xV_goto e_X1_accepts_120 ?_
        exact xV_zreturn e_X1_accepts_124 rfl rfl rfl (by rw [rAcc, if_neg s4_0, if_neg s4_1, if_neg s4_2, if_pos s4_3, rThen, if_pos h108]; exact ⟨rfl, rfl, rfl, rfl⟩)
  by_cases s4_4 : u 1 = nI 4
  · refine xV_tswIn (off := 121) (tgt := 125) e_X1_accepts_4 (by rw [s4_4]; decide) (by rw [s4_4]; decide) (by rw [s4_4]; rfl) (by decide) ?_
    refine xV_aload_n e_X1_accepts_125 rfl ?_
    refine xV_iload_n e_X1_accepts_126 rfl ?_
    refine xV_bipush (v := (nI 48)) e_X1_accepts_127 (by decide) ?_
    refine xV_isub e_X1_accepts_129 ?_
    refine xV_aload_n e_X1_accepts_130 rfl ?_
    refine xV_getU e_X1_accepts_131 f_X1_25 (by assumption) ?_
    refine xV_cV2i e_X1_accepts_134 c_X1_45 (by assumption) (C_X1_acceptsOnes hq) (Nat.le_of_ble_eq_true rfl) ⟨(Nat.le_of_ble_eq_true rfl), (Nat.le_of_ble_eq_true rfl)⟩ (xle_r _) (xle_r _) ?_
    refine xV_if_eqB e_X1_accepts_137 (fun h137 => ?_) (fun h137 => ?_)
    · refine xV_iconst (v := (nI 0)) e_X1_accepts_151 (by decide) ?_
      exact xV_zreturn e_X1_accepts_152 rfl rfl rfl (by rw [rAcc, if_neg s4_0, if_neg s4_1, if_neg s4_2, if_neg s4_3, if_pos s4_4, if_neg (by rw [h137]; decide)]; exact ⟨xret_f h137, rfl, rfl, rfl⟩)
    · refine xV_aload_n e_X1_accepts_140 rfl ?_
      refine xV_cV0i e_X1_accepts_141 c_X1_48 (by assumption) (C_X1_tell hq) (Nat.le_of_ble_eq_true rfl) ⟨(Nat.le_of_ble_eq_true rfl), (Nat.le_of_ble_eq_true rfl)⟩ (xle_r _) (xle_r _) ?_
      refine xV_if_eqB e_X1_accepts_144 (fun h144 => ?_) (fun h144 => ?_)
      · exact absurd (show true = false from h144) (by decide)
      · refine xV_iconst (v := (nI 1)) e_X1_accepts_147 (by decide) ?_
        refine xV_goto e_X1_accepts_148 ?_
        exact xV_zreturn e_X1_accepts_152 rfl rfl rfl (by rw [rAcc, if_neg s4_0, if_neg s4_1, if_neg s4_2, if_neg s4_3, if_pos s4_4, if_pos h137]; exact ⟨rfl, rfl, rfl, rfl⟩)
  by_cases s4_5 : u 1 = nI 5
  · refine xV_tswIn (off := 149) (tgt := 153) e_X1_accepts_4 (by rw [s4_5]; decide) (by rw [s4_5]; decide) (by rw [s4_5]; rfl) (by decide) ?_
    refine xV_aload_n e_X1_accepts_153 rfl ?_
    refine xV_aload_n e_X1_accepts_154 rfl ?_
    refine xV_getR e_X1_accepts_155 f_X1_12 (by assumption) (by assumption) ?_
    refine xV_getR e_X1_accepts_158 f_X1_52 (by assumption) (by assumption) ?_
    refine xV_iload_n e_X1_accepts_161 rfl ?_
    refine xV_bipush (v := (nI 48)) e_X1_accepts_162 (by decide) ?_
    refine xV_isub e_X1_accepts_164 ?_
    refine xV_cV2i e_X1_accepts_165 c_X1_56 (by assumption) (C_X1_acceptsAmount1 hq) (Nat.le_of_ble_eq_true rfl) ⟨(Nat.le_of_ble_eq_true rfl), (Nat.le_of_ble_eq_true rfl)⟩ (xle_r _) (xle_r _) ?_
    refine xV_if_eqB e_X1_accepts_168 (fun h168 => ?_) (fun h168 => ?_)
    · refine xV_iconst (v := (nI 0)) e_X1_accepts_184 (by decide) ?_
      exact xV_zreturn e_X1_accepts_185 rfl rfl rfl (by rw [rAcc, if_neg s4_0, if_neg s4_1, if_neg s4_2, if_neg s4_3, if_neg s4_4, if_pos s4_5, rThen, if_neg (by rw [h168]; decide)]; exact ⟨xret_f h168, rfl, rfl, rfl⟩)
    · refine xV_aload_n e_X1_accepts_171 rfl ?_
      refine xV_bipush (v := (nI 6)) e_X1_accepts_172 (by decide) ?_
      refine xV_cV1i e_X1_accepts_174 c_X1_31 (by assumption) (C_X1_goOn hq) (Nat.le_of_ble_eq_true rfl) ⟨(Nat.le_of_ble_eq_true rfl), (Nat.le_of_ble_eq_true rfl)⟩ (xle_r _) (xle_r _) ?_
      refine xV_if_eqB e_X1_accepts_177 (fun h177 => ?_) (fun h177 => ?_)
      · exact absurd (show true = false from h177) (by decide)
      · refine xV_iconst (v := (nI 1)) e_X1_accepts_180 (by decide) ?_
        refine xV_goto e_X1_accepts_181 ?_
        exact xV_zreturn e_X1_accepts_185 rfl rfl rfl (by rw [rAcc, if_neg s4_0, if_neg s4_1, if_neg s4_2, if_neg s4_3, if_neg s4_4, if_pos s4_5, rThen, if_pos h168]; exact ⟨rfl, rfl, rfl, rfl⟩)
  by_cases s4_6 : u 1 = nI 6
  · refine xV_tswIn (off := 182) (tgt := 186) e_X1_accepts_4 (by rw [s4_6]; decide) (by rw [s4_6]; decide) (by rw [s4_6]; rfl) (by decide) ?_
    refine xV_aload_n e_X1_accepts_186 rfl ?_
    refine xV_aload_n e_X1_accepts_187 rfl ?_
    refine xV_getR e_X1_accepts_188 f_X1_12 (by assumption) (by assumption) ?_
    refine xV_getR e_X1_accepts_191 f_X1_60 (by assumption) (by assumption) ?_
    refine xV_iload_n e_X1_accepts_194 rfl ?_
    refine xV_bipush (v := (nI 48)) e_X1_accepts_195 (by decide) ?_
    refine xV_isub e_X1_accepts_197 ?_
    refine xV_cV2i e_X1_accepts_198 c_X1_56 (by assumption) (C_X1_acceptsAmount2 hq) (Nat.le_of_ble_eq_true rfl) ⟨(Nat.le_of_ble_eq_true rfl), (Nat.le_of_ble_eq_true rfl)⟩ (xle_r _) (xle_r _) ?_
    refine xV_if_eqB e_X1_accepts_201 (fun h201 => ?_) (fun h201 => ?_)
    · refine xV_iconst (v := (nI 0)) e_X1_accepts_217 (by decide) ?_
      exact xV_zreturn e_X1_accepts_218 rfl rfl rfl (by rw [rAcc, if_neg s4_0, if_neg s4_1, if_neg s4_2, if_neg s4_3, if_neg s4_4, if_neg s4_5, if_pos s4_6, rThen, if_neg (by rw [h201]; decide)]; exact ⟨xret_f h201, rfl, rfl, rfl⟩)
    · refine xV_aload_n e_X1_accepts_204 rfl ?_
      refine xV_bipush (v := (nI 7)) e_X1_accepts_205 (by decide) ?_
      refine xV_cV1i e_X1_accepts_207 c_X1_31 (by assumption) (C_X1_goOn hq) (Nat.le_of_ble_eq_true rfl) ⟨(Nat.le_of_ble_eq_true rfl), (Nat.le_of_ble_eq_true rfl)⟩ (xle_r _) (xle_r _) ?_
      refine xV_if_eqB e_X1_accepts_210 (fun h210 => ?_) (fun h210 => ?_)
      · exact absurd (show true = false from h210) (by decide)
      · refine xV_iconst (v := (nI 1)) e_X1_accepts_213 (by decide) ?_
        refine xV_goto e_X1_accepts_214 ?_
        exact xV_zreturn e_X1_accepts_218 rfl rfl rfl (by rw [rAcc, if_neg s4_0, if_neg s4_1, if_neg s4_2, if_neg s4_3, if_neg s4_4, if_neg s4_5, if_pos s4_6, rThen, if_pos h201]; exact ⟨rfl, rfl, rfl, rfl⟩)
  by_cases s4_7 : u 1 = nI 7
  · refine xV_tswIn (off := 215) (tgt := 219) e_X1_accepts_4 (by rw [s4_7]; decide) (by rw [s4_7]; decide) (by rw [s4_7]; rfl) (by decide) ?_
    refine xV_aload_n e_X1_accepts_219 rfl ?_
    refine xV_aload_n e_X1_accepts_220 rfl ?_
    refine xV_getR e_X1_accepts_221 f_X1_12 (by assumption) (by assumption) ?_
    refine xV_getR e_X1_accepts_224 f_X1_63 (by assumption) (by assumption) ?_
    refine xV_iload_n e_X1_accepts_227 rfl ?_
    refine xV_bipush (v := (nI 48)) e_X1_accepts_228 (by decide) ?_
    refine xV_isub e_X1_accepts_230 ?_
    refine xV_cV2i e_X1_accepts_231 c_X1_56 (by assumption) (C_X1_acceptsAmount3 hq) (Nat.le_of_ble_eq_true rfl) ⟨(Nat.le_of_ble_eq_true rfl), (Nat.le_of_ble_eq_true rfl)⟩ (xle_r _) (xle_r _) ?_
    refine xV_if_eqB e_X1_accepts_234 (fun h234 => ?_) (fun h234 => ?_)
    · refine xV_iconst (v := (nI 0)) e_X1_accepts_249 (by decide) ?_
      exact xV_zreturn e_X1_accepts_250 rfl rfl rfl (by rw [rAcc, if_neg s4_0, if_neg s4_1, if_neg s4_2, if_neg s4_3, if_neg s4_4, if_neg s4_5, if_neg s4_6, if_pos s4_7, rThen, if_neg (by rw [h234]; decide)]; exact ⟨xret_f h234, rfl, rfl, rfl⟩)
    · refine xV_aload_n e_X1_accepts_237 rfl ?_
      refine xV_iconst (v := (nI 2)) e_X1_accepts_238 (by decide) ?_
      refine xV_cV1i e_X1_accepts_239 c_X1_31 (by assumption) (C_X1_goOn hq) (Nat.le_of_ble_eq_true rfl) ⟨(Nat.le_of_ble_eq_true rfl), (Nat.le_of_ble_eq_true rfl)⟩ (xle_r _) (xle_r _) ?_
      refine xV_if_eqB e_X1_accepts_242 (fun h242 => ?_) (fun h242 => ?_)
      · exact absurd (show true = false from h242) (by decide)
      · refine xV_iconst (v := (nI 1)) e_X1_accepts_245 (by decide) ?_
        refine xV_goto e_X1_accepts_246 ?_
        exact xV_zreturn e_X1_accepts_250 rfl rfl rfl (by rw [rAcc, if_neg s4_0, if_neg s4_1, if_neg s4_2, if_neg s4_3, if_neg s4_4, if_neg s4_5, if_neg s4_6, if_pos s4_7, rThen, if_pos h234]; exact ⟨rfl, rfl, rfl, rfl⟩)
  by_cases s4_8 : u 1 = nI 8
  · refine xV_tswIn (off := 247) (tgt := 251) e_X1_accepts_4 (by rw [s4_8]; decide) (by rw [s4_8]; decide) (by rw [s4_8]; rfl) (by decide) ?_
    refine xV_aload_n e_X1_accepts_251 rfl ?_
    refine xV_iload_n e_X1_accepts_252 rfl ?_
    refine xV_bipush (v := (nI 48)) e_X1_accepts_253 (by decide) ?_
    refine xV_isub e_X1_accepts_255 ?_
    refine xV_iconst (v := (nI 0)) e_X1_accepts_256 (by decide) ?_
    refine xV_cV2i e_X1_accepts_257 c_X1_41 (by assumption) (C_X1_acceptsTens hq) (Nat.le_of_ble_eq_true rfl) ⟨(Nat.le_of_ble_eq_true rfl), (Nat.le_of_ble_eq_true rfl)⟩ (xle_r _) (xle_r _) ?_
    refine xV_if_eqB e_X1_accepts_260 (fun h260 => ?_) (fun h260 => ?_)
    · refine xV_iconst (v := (nI 0)) e_X1_accepts_276 (by decide) ?_
      exact xV_zreturn e_X1_accepts_277 rfl rfl rfl (by rw [rAcc, if_neg s4_0, if_neg s4_1, if_neg s4_2, if_neg s4_3, if_neg s4_4, if_neg s4_5, if_neg s4_6, if_neg s4_7, if_pos s4_8, rThen, if_neg (by rw [h260]; decide)]; exact ⟨xret_f h260, rfl, rfl, rfl⟩)
    · refine xV_aload_n e_X1_accepts_263 rfl ?_
      refine xV_bipush (v := (nI 9)) e_X1_accepts_264 (by decide) ?_
      refine xV_cV1i e_X1_accepts_266 c_X1_31 (by assumption) (C_X1_goOn hq) (Nat.le_of_ble_eq_true rfl) ⟨(Nat.le_of_ble_eq_true rfl), (Nat.le_of_ble_eq_true rfl)⟩ (xle_r _) (xle_r _) ?_
      refine xV_if_eqB e_X1_accepts_269 (fun h269 => ?_) (fun h269 => ?_)
      · exact absurd (show true = false from h269) (by decide)
      · refine xV_iconst (v := (nI 1)) e_X1_accepts_272 (by decide) ?_
        refine xV_goto e_X1_accepts_273 ?_
        exact xV_zreturn e_X1_accepts_277 rfl rfl rfl (by rw [rAcc, if_neg s4_0, if_neg s4_1, if_neg s4_2, if_neg s4_3, if_neg s4_4, if_neg s4_5, if_neg s4_6, if_neg s4_7, if_pos s4_8, rThen, if_pos h260]; exact ⟨rfl, rfl, rfl, rfl⟩)
  by_cases s4_9 : u 1 = nI 9
  · refine xV_tswIn (off := 274) (tgt := 278) e_X1_accepts_4 (by rw [s4_9]; decide) (by rw [s4_9]; decide) (by rw [s4_9]; rfl) (by decide) ?_
    refine xV_aload_n e_X1_accepts_278 rfl ?_
    refine xV_iload_n e_X1_accepts_279 rfl ?_
    refine xV_bipush (v := (nI 48)) e_X1_accepts_280 (by decide) ?_
    refine xV_isub e_X1_accepts_282 ?_
    refine xV_iconst (v := (nI 0)) e_X1_accepts_283 (by decide) ?_
    refine xV_cV2i e_X1_accepts_284 c_X1_45 (by assumption) (C_X1_acceptsOnes hq) (Nat.le_of_ble_eq_true rfl) ⟨(Nat.le_of_ble_eq_true rfl), (Nat.le_of_ble_eq_true rfl)⟩ (xle_r _) (xle_r _) ?_
    refine xV_if_eqB e_X1_accepts_287 (fun h287 => ?_) (fun h287 => ?_)
    · refine xV_iconst (v := (nI 0)) e_X1_accepts_303 (by decide) ?_
      exact xV_zreturn e_X1_accepts_304 rfl rfl rfl (by rw [rAcc, if_neg s4_0, if_neg s4_1, if_neg s4_2, if_neg s4_3, if_neg s4_4, if_neg s4_5, if_neg s4_6, if_neg s4_7, if_neg s4_8, if_pos s4_9, rThen, if_neg (by rw [h287]; decide)]; exact ⟨xret_f h287, rfl, rfl, rfl⟩)
    · refine xV_aload_n e_X1_accepts_290 rfl ?_
      refine xV_bipush (v := (nI 10)) e_X1_accepts_291 (by decide) ?_
      refine xV_cV1i e_X1_accepts_293 c_X1_31 (by assumption) (C_X1_goOn hq) (Nat.le_of_ble_eq_true rfl) ⟨(Nat.le_of_ble_eq_true rfl), (Nat.le_of_ble_eq_true rfl)⟩ (xle_r _) (xle_r _) ?_
      refine xV_if_eqB e_X1_accepts_296 (fun h296 => ?_) (fun h296 => ?_)
      · exact absurd (show true = false from h296) (by decide)
      · refine xV_iconst (v := (nI 1)) e_X1_accepts_299 (by decide) ?_
        refine xV_goto e_X1_accepts_300 ?_
        exact xV_zreturn e_X1_accepts_304 rfl rfl rfl (by rw [rAcc, if_neg s4_0, if_neg s4_1, if_neg s4_2, if_neg s4_3, if_neg s4_4, if_neg s4_5, if_neg s4_6, if_neg s4_7, if_neg s4_8, if_pos s4_9, rThen, if_pos h287]; exact ⟨rfl, rfl, rfl, rfl⟩)
  by_cases s4_10 : u 1 = nI 10
  · refine xV_tswIn (off := 301) (tgt := 305) e_X1_accepts_4 (by rw [s4_10]; decide) (by rw [s4_10]; decide) (by rw [s4_10]; rfl) (by decide) ?_
    refine xV_aload_n e_X1_accepts_305 rfl ?_
    refine xV_iload_n e_X1_accepts_306 rfl ?_
    refine xV_bipush (v := (nI 48)) e_X1_accepts_307 (by decide) ?_
    refine xV_isub e_X1_accepts_309 ?_
    refine xV_cV1i e_X1_accepts_310 c_X1_66 (by assumption) (C_X1_acceptsSect hq) (Nat.le_of_ble_eq_true rfl) ⟨(Nat.le_of_ble_eq_true rfl), (Nat.le_of_ble_eq_true rfl)⟩ (xle_r _) (xle_r _) ?_
    exact xV_zreturn e_X1_accepts_313 rfl (xb_nar _) rfl (by rw [rAcc, if_neg s4_0, if_neg s4_1, if_neg s4_2, if_neg s4_3, if_neg s4_4, if_neg s4_5, if_neg s4_6, if_neg s4_7, if_neg s4_8, if_neg s4_9, if_pos s4_10]; exact ⟨rfl, rfl, rfl, rfl⟩)
  refine xV_tswOut (tgt := 314) e_X1_accepts_4 (tsw_out (n := 10) (by decide) (fun k hk => by
    have e : k = 0 ∨ k = 1 ∨ k = 2 ∨ k = 3 ∨ k = 4 ∨ k = 5 ∨ k = 6 ∨ k = 7 ∨ k = 8 ∨ k = 9 ∨ k = 10 := by omega
    rcases e with rfl | rfl | rfl | rfl | rfl | rfl | rfl | rfl | rfl | rfl | rfl <;> assumption)) (by decide) ?_
  refine xV_iconst (v := (nI 0)) e_X1_accepts_314 (by decide) ?_
  exact xV_zreturn e_X1_accepts_315 rfl rfl rfl (by rw [rAcc, if_neg s4_0, if_neg s4_1, if_neg s4_2, if_neg s4_3, if_neg s4_4, if_neg s4_5, if_neg s4_6, if_neg s4_7, if_neg s4_8, if_neg s4_9, if_neg s4_10]; exact ⟨rfl, rfl, rfl, rfl⟩)
end XRDR
end
