section
-- ===== PART A: goes FIRST, ahead of the names: the tables' words, and 'selects' of the private methods out of them =====
/-- a private method of a class that the tables say can be made, by its rows of tables_1 -/
def lw_okq (q : MethodName × Nat) : Prop := (q.1.cls ≠ "java/lang/invoke/MethodHandle" ∧ q.1.cls ≠ "java/lang/invoke/VarHandle") ∧ Cond.instantiable q.1.cls q.2 ∈ tables_1 ∧ Cond.privateMethod q.1 ∈ tables_1 ∧ Cond.instanceMethod q.1 ∈ tables_1
theorem lw_p0 : lw_okq (⟨"PrayerTailings", "readText", "()I"⟩, 14) := ⟨⟨by decide +kernel, by decide +kernel⟩, List.mem_of_getElem? (i := 9) (by decide +kernel), List.mem_of_getElem? (i := 159) (by decide +kernel), List.mem_of_getElem? (i := 160) (by decide +kernel)⟩
theorem lw_p1 : lw_okq (⟨"PrayerTailings$Mine", "empty", "(I)V"⟩, 12) := ⟨⟨by decide +kernel, by decide +kernel⟩, List.mem_of_getElem? (i := 23) (by decide +kernel), List.mem_of_getElem? (i := 171) (by decide +kernel), List.mem_of_getElem? (i := 172) (by decide +kernel)⟩
theorem lw_p2 : lw_okq (⟨"PrayerTailings$Reader", "goOn", "(I)Z"⟩, 4) := ⟨⟨by decide +kernel, by decide +kernel⟩, List.mem_of_getElem? (i := 17) (by decide +kernel), List.mem_of_getElem? (i := 183) (by decide +kernel), List.mem_of_getElem? (i := 184) (by decide +kernel)⟩
theorem lw_p3 : lw_okq (⟨"PrayerTailings$Reader", "acceptsHold", "(I)Z"⟩, 4) := ⟨⟨by decide +kernel, by decide +kernel⟩, List.mem_of_getElem? (i := 17) (by decide +kernel), List.mem_of_getElem? (i := 187) (by decide +kernel), List.mem_of_getElem? (i := 188) (by decide +kernel)⟩
theorem lw_p4 : lw_okq (⟨"PrayerTailings$Reader", "acceptsPart", "(I)Z"⟩, 4) := ⟨⟨by decide +kernel, by decide +kernel⟩, List.mem_of_getElem? (i := 17) (by decide +kernel), List.mem_of_getElem? (i := 191) (by decide +kernel), List.mem_of_getElem? (i := 192) (by decide +kernel)⟩
theorem lw_p5 : lw_okq (⟨"PrayerTailings$Reader", "acceptsTens", "(II)Z"⟩, 4) := ⟨⟨by decide +kernel, by decide +kernel⟩, List.mem_of_getElem? (i := 17) (by decide +kernel), List.mem_of_getElem? (i := 201) (by decide +kernel), List.mem_of_getElem? (i := 202) (by decide +kernel)⟩
theorem lw_p6 : lw_okq (⟨"PrayerTailings$Reader", "acceptsOnes", "(II)Z"⟩, 4) := ⟨⟨by decide +kernel, by decide +kernel⟩, List.mem_of_getElem? (i := 17) (by decide +kernel), List.mem_of_getElem? (i := 205) (by decide +kernel), List.mem_of_getElem? (i := 206) (by decide +kernel)⟩
theorem lw_p7 : lw_okq (⟨"PrayerTailings$Reader", "tell", "()Z"⟩, 4) := ⟨⟨by decide +kernel, by decide +kernel⟩, List.mem_of_getElem? (i := 17) (by decide +kernel), List.mem_of_getElem? (i := 215) (by decide +kernel), List.mem_of_getElem? (i := 216) (by decide +kernel)⟩
theorem lw_p8 : lw_okq (⟨"PrayerTailings$Reader", "acceptsAmount", "([II)Z"⟩, 4) := ⟨⟨by decide +kernel, by decide +kernel⟩, List.mem_of_getElem? (i := 17) (by decide +kernel), List.mem_of_getElem? (i := 219) (by decide +kernel), List.mem_of_getElem? (i := 220) (by decide +kernel)⟩
theorem lw_p9 : lw_okq (⟨"PrayerTailings$Reader", "acceptsSect", "(I)Z"⟩, 4) := ⟨⟨by decide +kernel, by decide +kernel⟩, List.mem_of_getElem? (i := 17) (by decide +kernel), List.mem_of_getElem? (i := 224) (by decide +kernel), List.mem_of_getElem? (i := 225) (by decide +kernel)⟩
theorem lw_p10 : lw_okq (⟨"PrayerTailings", "remember", "()V"⟩, 14) := ⟨⟨by decide +kernel, by decide +kernel⟩, List.mem_of_getElem? (i := 9) (by decide +kernel), List.mem_of_getElem? (i := 303) (by decide +kernel), List.mem_of_getElem? (i := 304) (by decide +kernel)⟩
theorem lw_p11 : lw_okq (⟨"PrayerTailings$Mine", "loosen", "(II)V"⟩, 12) := ⟨⟨by decide +kernel, by decide +kernel⟩, List.mem_of_getElem? (i := 23) (by decide +kernel), List.mem_of_getElem? (i := 316) (by decide +kernel), List.mem_of_getElem? (i := 317) (by decide +kernel)⟩
theorem lw_p12 : lw_okq (⟨"PrayerTailings$Mine", "waves", "()I"⟩, 12) := ⟨⟨by decide +kernel, by decide +kernel⟩, List.mem_of_getElem? (i := 23) (by decide +kernel), List.mem_of_getElem? (i := 324) (by decide +kernel), List.mem_of_getElem? (i := 325) (by decide +kernel)⟩
theorem lw_p13 : lw_okq (⟨"PrayerTailings$Mine", "tooLoose", "()I"⟩, 12) := ⟨⟨by decide +kernel, by decide +kernel⟩, List.mem_of_getElem? (i := 23) (by decide +kernel), List.mem_of_getElem? (i := 328) (by decide +kernel), List.mem_of_getElem? (i := 329) (by decide +kernel)⟩
theorem lw_p14 : lw_okq (⟨"PrayerTailings$Mine", "fell", "(I)V"⟩, 12) := ⟨⟨by decide +kernel, by decide +kernel⟩, List.mem_of_getElem? (i := 23) (by decide +kernel), List.mem_of_getElem? (i := 332) (by decide +kernel), List.mem_of_getElem? (i := 333) (by decide +kernel)⟩
theorem lw_p15 : lw_okq (⟨"PrayerTailings", "breakOf", "(I)I"⟩, 14) := ⟨⟨by decide +kernel, by decide +kernel⟩, List.mem_of_getElem? (i := 9) (by decide +kernel), List.mem_of_getElem? (i := 374) (by decide +kernel), List.mem_of_getElem? (i := 375) (by decide +kernel)⟩
def lw_privs_1 : List (MethodName × Nat) := [(⟨"PrayerTailings", "readText", "()I"⟩, 14), (⟨"PrayerTailings$Mine", "empty", "(I)V"⟩, 12), (⟨"PrayerTailings$Reader", "goOn", "(I)Z"⟩, 4), (⟨"PrayerTailings$Reader", "acceptsHold", "(I)Z"⟩, 4), (⟨"PrayerTailings$Reader", "acceptsPart", "(I)Z"⟩, 4), (⟨"PrayerTailings$Reader", "acceptsTens", "(II)Z"⟩, 4), (⟨"PrayerTailings$Reader", "acceptsOnes", "(II)Z"⟩, 4), (⟨"PrayerTailings$Reader", "tell", "()Z"⟩, 4), (⟨"PrayerTailings$Reader", "acceptsAmount", "([II)Z"⟩, 4), (⟨"PrayerTailings$Reader", "acceptsSect", "(I)Z"⟩, 4), (⟨"PrayerTailings", "remember", "()V"⟩, 14), (⟨"PrayerTailings$Mine", "loosen", "(II)V"⟩, 12), (⟨"PrayerTailings$Mine", "waves", "()I"⟩, 12), (⟨"PrayerTailings$Mine", "tooLoose", "()I"⟩, 12), (⟨"PrayerTailings$Mine", "fell", "(I)V"⟩, 12), (⟨"PrayerTailings", "breakOf", "(I)I"⟩, 14)]
theorem lw_r1 : ∀ q ∈ lw_privs_1, lw_okq q := List.forall_mem_cons.mpr ⟨lw_p0, List.forall_mem_cons.mpr ⟨lw_p1, List.forall_mem_cons.mpr ⟨lw_p2, List.forall_mem_cons.mpr ⟨lw_p3, List.forall_mem_cons.mpr ⟨lw_p4, List.forall_mem_cons.mpr ⟨lw_p5, List.forall_mem_cons.mpr ⟨lw_p6, List.forall_mem_cons.mpr ⟨lw_p7, List.forall_mem_cons.mpr ⟨lw_p8, List.forall_mem_cons.mpr ⟨lw_p9, List.forall_mem_cons.mpr ⟨lw_p10, List.forall_mem_cons.mpr ⟨lw_p11, List.forall_mem_cons.mpr ⟨lw_p12, List.forall_mem_cons.mpr ⟨lw_p13, List.forall_mem_cons.mpr ⟨lw_p14, List.forall_mem_cons.mpr ⟨lw_p15, fun _ h => absurd h List.not_mem_nil⟩⟩⟩⟩⟩⟩⟩⟩⟩⟩⟩⟩⟩⟩⟩⟩
theorem lw_p16 : lw_okq (⟨"PrayerTailings", "bestCode", "(I)I"⟩, 14) := ⟨⟨by decide +kernel, by decide +kernel⟩, List.mem_of_getElem? (i := 9) (by decide +kernel), List.mem_of_getElem? (i := 382) (by decide +kernel), List.mem_of_getElem? (i := 383) (by decide +kernel)⟩
theorem lw_p17 : lw_okq (⟨"PrayerTailings", "setSong", "(II)V"⟩, 14) := ⟨⟨by decide +kernel, by decide +kernel⟩, List.mem_of_getElem? (i := 9) (by decide +kernel), List.mem_of_getElem? (i := 386) (by decide +kernel), List.mem_of_getElem? (i := 387) (by decide +kernel)⟩
theorem lw_p18 : lw_okq (⟨"PrayerTailings", "isSeenBy", "(I)Z"⟩, 14) := ⟨⟨by decide +kernel, by decide +kernel⟩, List.mem_of_getElem? (i := 9) (by decide +kernel), List.mem_of_getElem? (i := 429) (by decide +kernel), List.mem_of_getElem? (i := 430) (by decide +kernel)⟩
theorem lw_p19 : lw_okq (⟨"PrayerTailings", "nextTenth", "()I"⟩, 14) := ⟨⟨by decide +kernel, by decide +kernel⟩, List.mem_of_getElem? (i := 9) (by decide +kernel), List.mem_of_getElem? (i := 451) (by decide +kernel), List.mem_of_getElem? (i := 452) (by decide +kernel)⟩
theorem lw_p20 : lw_okq (⟨"PrayerTailingsModel", "readMine", "()I"⟩, 24) := ⟨⟨by decide +kernel, by decide +kernel⟩, List.mem_of_getElem? (i := 466) (by decide +kernel), List.mem_of_getElem? (i := 562) (by decide +kernel), List.mem_of_getElem? (i := 563) (by decide +kernel)⟩
theorem lw_p21 : lw_okq (⟨"PrayerTailingsModel", "figure", "(II)I"⟩, 24) := ⟨⟨by decide +kernel, by decide +kernel⟩, List.mem_of_getElem? (i := 466) (by decide +kernel), List.mem_of_getElem? (i := 566) (by decide +kernel), List.mem_of_getElem? (i := 567) (by decide +kernel)⟩
theorem lw_p22 : lw_okq (⟨"PrayerTailingsModel", "readPart", "()Z"⟩, 24) := ⟨⟨by decide +kernel, by decide +kernel⟩, List.mem_of_getElem? (i := 466) (by decide +kernel), List.mem_of_getElem? (i := 570) (by decide +kernel), List.mem_of_getElem? (i := 571) (by decide +kernel)⟩
theorem lw_p23 : lw_okq (⟨"PrayerTailingsModel", "readCell", "()Z"⟩, 24) := ⟨⟨by decide +kernel, by decide +kernel⟩, List.mem_of_getElem? (i := 466) (by decide +kernel), List.mem_of_getElem? (i := 574) (by decide +kernel), List.mem_of_getElem? (i := 575) (by decide +kernel)⟩
theorem lw_p24 : lw_okq (⟨"PrayerTailingsModel", "readCellOf", "(I)I"⟩, 24) := ⟨⟨by decide +kernel, by decide +kernel⟩, List.mem_of_getElem? (i := 466) (by decide +kernel), List.mem_of_getElem? (i := 578) (by decide +kernel), List.mem_of_getElem? (i := 579) (by decide +kernel)⟩
theorem lw_p25 : lw_okq (⟨"PrayerTailingsModel", "readMonk", "()Z"⟩, 24) := ⟨⟨by decide +kernel, by decide +kernel⟩, List.mem_of_getElem? (i := 466) (by decide +kernel), List.mem_of_getElem? (i := 586) (by decide +kernel), List.mem_of_getElem? (i := 587) (by decide +kernel)⟩
theorem lw_p26 : lw_okq (⟨"PrayerTailingsModel", "thereOf", "(I)I"⟩, 24) := ⟨⟨by decide +kernel, by decide +kernel⟩, List.mem_of_getElem? (i := 466) (by decide +kernel), List.mem_of_getElem? (i := 606) (by decide +kernel), List.mem_of_getElem? (i := 607) (by decide +kernel)⟩
theorem lw_p27 : lw_okq (⟨"PrayerTailingsModel", "noMonk", "(I)Z"⟩, 24) := ⟨⟨by decide +kernel, by decide +kernel⟩, List.mem_of_getElem? (i := 466) (by decide +kernel), List.mem_of_getElem? (i := 614) (by decide +kernel), List.mem_of_getElem? (i := 615) (by decide +kernel)⟩
theorem lw_p28 : lw_okq (⟨"PrayerTailingsModel", "timesOf", "([II)I"⟩, 24) := ⟨⟨by decide +kernel, by decide +kernel⟩, List.mem_of_getElem? (i := 466) (by decide +kernel), List.mem_of_getElem? (i := 618) (by decide +kernel), List.mem_of_getElem? (i := 619) (by decide +kernel)⟩
theorem lw_p29 : lw_okq (⟨"PrayerTailingsModel", "noOne", "(I)I"⟩, 24) := ⟨⟨by decide +kernel, by decide +kernel⟩, List.mem_of_getElem? (i := 466) (by decide +kernel), List.mem_of_getElem? (i := 629) (by decide +kernel), List.mem_of_getElem? (i := 630) (by decide +kernel)⟩
theorem lw_p30 : lw_okq (⟨"PrayerTailingsModel", "note", "()V"⟩, 24) := ⟨⟨by decide +kernel, by decide +kernel⟩, List.mem_of_getElem? (i := 466) (by decide +kernel), List.mem_of_getElem? (i := 633) (by decide +kernel), List.mem_of_getElem? (i := 634) (by decide +kernel)⟩
theorem lw_p31 : lw_okq (⟨"PrayerTailingsModel", "goPray", "([II)I"⟩, 24) := ⟨⟨by decide +kernel, by decide +kernel⟩, List.mem_of_getElem? (i := 466) (by decide +kernel), List.mem_of_getElem? (i := 637) (by decide +kernel), List.mem_of_getElem? (i := 638) (by decide +kernel)⟩
def lw_privs_2 : List (MethodName × Nat) := [(⟨"PrayerTailings", "bestCode", "(I)I"⟩, 14), (⟨"PrayerTailings", "setSong", "(II)V"⟩, 14), (⟨"PrayerTailings", "isSeenBy", "(I)Z"⟩, 14), (⟨"PrayerTailings", "nextTenth", "()I"⟩, 14), (⟨"PrayerTailingsModel", "readMine", "()I"⟩, 24), (⟨"PrayerTailingsModel", "figure", "(II)I"⟩, 24), (⟨"PrayerTailingsModel", "readPart", "()Z"⟩, 24), (⟨"PrayerTailingsModel", "readCell", "()Z"⟩, 24), (⟨"PrayerTailingsModel", "readCellOf", "(I)I"⟩, 24), (⟨"PrayerTailingsModel", "readMonk", "()Z"⟩, 24), (⟨"PrayerTailingsModel", "thereOf", "(I)I"⟩, 24), (⟨"PrayerTailingsModel", "noMonk", "(I)Z"⟩, 24), (⟨"PrayerTailingsModel", "timesOf", "([II)I"⟩, 24), (⟨"PrayerTailingsModel", "noOne", "(I)I"⟩, 24), (⟨"PrayerTailingsModel", "note", "()V"⟩, 24), (⟨"PrayerTailingsModel", "goPray", "([II)I"⟩, 24)]
theorem lw_r2 : ∀ q ∈ lw_privs_2, lw_okq q := List.forall_mem_cons.mpr ⟨lw_p16, List.forall_mem_cons.mpr ⟨lw_p17, List.forall_mem_cons.mpr ⟨lw_p18, List.forall_mem_cons.mpr ⟨lw_p19, List.forall_mem_cons.mpr ⟨lw_p20, List.forall_mem_cons.mpr ⟨lw_p21, List.forall_mem_cons.mpr ⟨lw_p22, List.forall_mem_cons.mpr ⟨lw_p23, List.forall_mem_cons.mpr ⟨lw_p24, List.forall_mem_cons.mpr ⟨lw_p25, List.forall_mem_cons.mpr ⟨lw_p26, List.forall_mem_cons.mpr ⟨lw_p27, List.forall_mem_cons.mpr ⟨lw_p28, List.forall_mem_cons.mpr ⟨lw_p29, List.forall_mem_cons.mpr ⟨lw_p30, List.forall_mem_cons.mpr ⟨lw_p31, fun _ h => absurd h List.not_mem_nil⟩⟩⟩⟩⟩⟩⟩⟩⟩⟩⟩⟩⟩⟩⟩⟩
theorem lw_p32 : lw_okq (⟨"PrayerTailingsModel", "fall", "([I)I"⟩, 24) := ⟨⟨by decide +kernel, by decide +kernel⟩, List.mem_of_getElem? (i := 466) (by decide +kernel), List.mem_of_getElem? (i := 644) (by decide +kernel), List.mem_of_getElem? (i := 645) (by decide +kernel)⟩
theorem lw_p33 : lw_okq (⟨"PrayerTailingsModel", "goDay", "([I)I"⟩, 24) := ⟨⟨by decide +kernel, by decide +kernel⟩, List.mem_of_getElem? (i := 466) (by decide +kernel), List.mem_of_getElem? (i := 664) (by decide +kernel), List.mem_of_getElem? (i := 665) (by decide +kernel)⟩
theorem lw_p34 : lw_okq (⟨"PrayerTailingsModel", "begin", "()V"⟩, 24) := ⟨⟨by decide +kernel, by decide +kernel⟩, List.mem_of_getElem? (i := 466) (by decide +kernel), List.mem_of_getElem? (i := 676) (by decide +kernel), List.mem_of_getElem? (i := 677) (by decide +kernel)⟩
theorem lw_p35 : lw_okq (⟨"PrayerTailingsModel", "goPsalm", "(II)I"⟩, 24) := ⟨⟨by decide +kernel, by decide +kernel⟩, List.mem_of_getElem? (i := 466) (by decide +kernel), List.mem_of_getElem? (i := 687) (by decide +kernel), List.mem_of_getElem? (i := 688) (by decide +kernel)⟩
theorem lw_p36 : lw_okq (⟨"PrayerTailingsModel", "findBest", "(I)I"⟩, 24) := ⟨⟨by decide +kernel, by decide +kernel⟩, List.mem_of_getElem? (i := 466) (by decide +kernel), List.mem_of_getElem? (i := 696) (by decide +kernel), List.mem_of_getElem? (i := 697) (by decide +kernel)⟩
theorem lw_p37 : lw_okq (⟨"PrayerTailingsModel", "prayAll", "([II)V"⟩, 24) := ⟨⟨by decide +kernel, by decide +kernel⟩, List.mem_of_getElem? (i := 466) (by decide +kernel), List.mem_of_getElem? (i := 712) (by decide +kernel), List.mem_of_getElem? (i := 713) (by decide +kernel)⟩
def lw_privs_3 : List (MethodName × Nat) := [(⟨"PrayerTailingsModel", "fall", "([I)I"⟩, 24), (⟨"PrayerTailingsModel", "goDay", "([I)I"⟩, 24), (⟨"PrayerTailingsModel", "begin", "()V"⟩, 24), (⟨"PrayerTailingsModel", "goPsalm", "(II)I"⟩, 24), (⟨"PrayerTailingsModel", "findBest", "(I)I"⟩, 24), (⟨"PrayerTailingsModel", "prayAll", "([II)V"⟩, 24)]
theorem lw_r3 : ∀ q ∈ lw_privs_3, lw_okq q := List.forall_mem_cons.mpr ⟨lw_p32, List.forall_mem_cons.mpr ⟨lw_p33, List.forall_mem_cons.mpr ⟨lw_p34, List.forall_mem_cons.mpr ⟨lw_p35, List.forall_mem_cons.mpr ⟨lw_p36, List.forall_mem_cons.mpr ⟨lw_p37, fun _ h => absurd h List.not_mem_nil⟩⟩⟩⟩⟩⟩
def lw_privs : List (MethodName × Nat) := lw_privs_1 ++ (lw_privs_2 ++ (lw_privs_3))
def lw_tbl : List Cond := k2_sels lw_privs ++ tables_1
theorem lw_privs_ok : ∀ q ∈ lw_privs, lw_okq q := by
  show ∀ q ∈ lw_privs_1 ++ (lw_privs_2 ++ (lw_privs_3)), lw_okq q
  exact List.forall_mem_append.mpr ⟨lw_r1, List.forall_mem_append.mpr ⟨lw_r2, lw_r3⟩⟩
-- ===== end of PART A; then your names; then what follows =====
end
section
def RX0 : String := "PrayerTailings$Mine"
def TX0 : u_T := fun k => match k with
  | 0 => ("PrayerTailings$Mine", "ore", "[I", true)
  | 1 => ("PrayerTailings$Mine", "loose", "[I", true)
  | 2 => ("PrayerTailings$Mine", "props", "[I", true)
  | 3 => ("PrayerTailings$Mine", "echoes", "[I", true)
  | 4 => ("PrayerTailings$Mine", "places", "[I", true)
  | 5 => ("PrayerTailings$Mine", "hold", "I", false)
  | 6 => ("PrayerTailings$Mine", "monks", "I", false)
  | 7 => ("PrayerTailings$Mine", "sects", "I", false)
  | 8 => ("PrayerTailings$Mine", "buried", "I", false)
  | 9 => ("PrayerTailings$Mine", "fallen", "I", false)
  | 10 => ("PrayerTailings$Mine", "taken", "I", false)
  | _ => ("PrayerTailings$Mine", "days", "I", false)
def tyX0 : Nat → FieldType := fun k => match k with
  | 0 => .array .int
  | 1 => .array .int
  | 2 => .array .int
  | 3 => .array .int
  | 4 => .array .int
  | 5 => .int
  | 6 => .int
  | 7 => .int
  | 8 => .int
  | 9 => .int
  | 10 => .int
  | _ => .int
theorem nmX0 : ∀ a, a < 12 → ∀ b, b < 12 → a ≠ b → (TX0 a).2.1 ≠ (TX0 b).2.1 := by decide +kernel
theorem tyX0_ok : ∀ k, k < 12 → parseFieldDescriptor (TX0 k).2.2.1 = some (tyX0 k) := by decide +kernel
abbrev cX0_init : ByteArray := prog_2_method_1_code
def yX0_init : MethodName := ⟨RX0, "<init>", "()V"⟩
abbrev cX0_clear : ByteArray := prog_2_method_2_code
def yX0_clear : MethodName := ⟨RX0, "clear", "()V"⟩
abbrev cX0_take : ByteArray := prog_2_method_3_code
def yX0_take : MethodName := ⟨RX0, "take", "(LPrayerTailings$Mine;)V"⟩
abbrev cX0_isFallen : ByteArray := prog_2_method_4_code
def yX0_isFallen : MethodName := ⟨RX0, "isFallen", "(I)Z"⟩
abbrev cX0_isMonk : ByteArray := prog_2_method_5_code
def yX0_isMonk : MethodName := ⟨RX0, "isMonk", "(I)Z"⟩
abbrev cX0_isLiving : ByteArray := prog_2_method_6_code
def yX0_isLiving : MethodName := ⟨RX0, "isLiving", "(I)Z"⟩
abbrev cX0_living : ByteArray := prog_2_method_7_code
def yX0_living : MethodName := ⟨RX0, "living", "()I"⟩
abbrev cX0_placeOf : ByteArray := prog_2_method_8_code
def yX0_placeOf : MethodName := ⟨RX0, "placeOf", "(I)I"⟩
abbrev cX0_addMonk : ByteArray := prog_2_method_9_code
def yX0_addMonk : MethodName := ⟨RX0, "addMonk", "(II)V"⟩
abbrev cX0_monksOn : ByteArray := prog_2_method_10_code
def yX0_monksOn : MethodName := ⟨RX0, "monksOn", "(I)I"⟩
abbrev cX0_oreLeft : ByteArray := prog_2_method_11_code
def yX0_oreLeft : MethodName := ⟨RX0, "oreLeft", "()I"⟩
abbrev cX0_forceOf : ByteArray := prog_2_method_12_code
def yX0_forceOf : MethodName := ⟨RX0, "forceOf", "(I)I"⟩
abbrev cX0_prayer : ByteArray := prog_2_method_13_code
def yX0_prayer : MethodName := ⟨RX0, "prayer", "(I)I"⟩
abbrev cX0_prayAll : ByteArray := prog_2_method_14_code
def yX0_prayAll : MethodName := ⟨RX0, "prayAll", "(I)V"⟩
abbrev cX0_endDay : ByteArray := prog_2_method_15_code
def yX0_endDay : MethodName := ⟨RX0, "endDay", "()I"⟩
abbrev cX0_loosenBy : ByteArray := prog_2_method_16_code
def yX0_loosenBy : MethodName := ⟨RX0, "loosenBy", "(I)V"⟩
abbrev cX0_propsWanting : ByteArray := prog_2_method_17_code
def yX0_propsWanting : MethodName := ⟨RX0, "propsWanting", "()I"⟩
abbrev cX0_loosen : ByteArray := prog_2_method_18_code
def yX0_loosen : MethodName := ⟨RX0, "loosen", "(II)V"⟩
abbrev cX0_waves : ByteArray := prog_2_method_19_code
def yX0_waves : MethodName := ⟨RX0, "waves", "()I"⟩
abbrev cX0_tooLoose : ByteArray := prog_2_method_20_code
def yX0_tooLoose : MethodName := ⟨RX0, "tooLoose", "()I"⟩
abbrev cX0_fell : ByteArray := prog_2_method_21_code
def yX0_fell : MethodName := ⟨RX0, "fell", "(I)V"⟩
abbrev cX0_empty : ByteArray := prog_2_method_22_code
def yX0_empty : MethodName := ⟨RX0, "empty", "(I)V"⟩
def RX1 : String := "PrayerTailings$Reader"
def TX1 : u_T := fun k => match k with
  | 0 => ("PrayerTailings$Reader", "draft", "LPrayerTailings$Mine;", true)
  | 1 => ("PrayerTailings$Reader", "due", "I", false)
  | 2 => ("PrayerTailings$Reader", "told", "I", false)
  | _ => ("PrayerTailings$Reader", "place", "I", false)
def tyX1 : Nat → FieldType := fun k => match k with
  | 0 => .object "PrayerTailings$Mine"
  | 1 => .int
  | 2 => .int
  | _ => .int
theorem nmX1 : ∀ a, a < 4 → ∀ b, b < 4 → a ≠ b → (TX1 a).2.1 ≠ (TX1 b).2.1 := by decide +kernel
theorem tyX1_ok : ∀ k, k < 4 → parseFieldDescriptor (TX1 k).2.2.1 = some (tyX1 k) := by decide +kernel
abbrev cX1_init : ByteArray := prog_3_method_1_code
def yX1_init : MethodName := ⟨RX1, "<init>", "()V"⟩
abbrev cX1_start : ByteArray := prog_3_method_2_code
def yX1_start : MethodName := ⟨RX1, "start", "()V"⟩
abbrev cX1_mayEnd : ByteArray := prog_3_method_3_code
def yX1_mayEnd : MethodName := ⟨RX1, "mayEnd", "()Z"⟩
abbrev cX1_accepts : ByteArray := prog_3_method_4_code
def yX1_accepts : MethodName := ⟨RX1, "accepts", "(I)Z"⟩
abbrev cX1_goOn : ByteArray := prog_3_method_5_code
def yX1_goOn : MethodName := ⟨RX1, "goOn", "(I)Z"⟩
abbrev cX1_acceptsHold : ByteArray := prog_3_method_6_code
def yX1_acceptsHold : MethodName := ⟨RX1, "acceptsHold", "(I)Z"⟩
abbrev cX1_acceptsPart : ByteArray := prog_3_method_7_code
def yX1_acceptsPart : MethodName := ⟨RX1, "acceptsPart", "(I)Z"⟩
abbrev cX1_acceptsTens : ByteArray := prog_3_method_8_code
def yX1_acceptsTens : MethodName := ⟨RX1, "acceptsTens", "(II)Z"⟩
abbrev cX1_acceptsOnes : ByteArray := prog_3_method_9_code
def yX1_acceptsOnes : MethodName := ⟨RX1, "acceptsOnes", "(II)Z"⟩
abbrev cX1_tell : ByteArray := prog_3_method_10_code
def yX1_tell : MethodName := ⟨RX1, "tell", "()Z"⟩
abbrev cX1_acceptsAmount : ByteArray := prog_3_method_11_code
def yX1_acceptsAmount : MethodName := ⟨RX1, "acceptsAmount", "([II)Z"⟩
abbrev cX1_acceptsSect : ByteArray := prog_3_method_12_code
def yX1_acceptsSect : MethodName := ⟨RX1, "acceptsSect", "(I)Z"⟩
def RX2 : String := "PrayerTailings"
def TX2 : u_T := fun k => match k with
  | 0 => ("PrayerTailings", "text", "[I", true)
  | 1 => ("PrayerTailings", "length", "I", false)
  | 2 => ("PrayerTailings", "reader", "LPrayerTailings$Reader;", true)
  | 3 => ("PrayerTailings", "now", "LPrayerTailings$Mine;", true)
  | 4 => ("PrayerTailings", "trial", "LPrayerTailings$Mine;", true)
  | 5 => ("PrayerTailings", "song", "[I", true)
  | 6 => ("PrayerTailings", "past", "[LPrayerTailings$Mine;", true)
  | 7 => ("PrayerTailings", "acts", "I", false)
  | 8 => ("PrayerTailings", "slots", "[LPrayerTailings$Mine;", true)
  | 9 => ("PrayerTailings", "kept", "I", false)
  | 10 => ("PrayerTailings", "seenCells", "[I", true)
  | 11 => ("PrayerTailings", "seenLoose", "[I", true)
  | 12 => ("PrayerTailings", "seen", "I", false)
  | _ => ("PrayerTailings", "seedNow", "J", false)
def tyX2 : Nat → FieldType := fun k => match k with
  | 0 => .array .int
  | 1 => .int
  | 2 => .object "PrayerTailings$Reader"
  | 3 => .object "PrayerTailings$Mine"
  | 4 => .object "PrayerTailings$Mine"
  | 5 => .array .int
  | 6 => .array (.object "PrayerTailings$Mine")
  | 7 => .int
  | 8 => .array (.object "PrayerTailings$Mine")
  | 9 => .int
  | 10 => .array .int
  | 11 => .array .int
  | 12 => .int
  | _ => .long
theorem nmX2 : ∀ a, a < 14 → ∀ b, b < 14 → a ≠ b → (TX2 a).2.1 ≠ (TX2 b).2.1 := by decide +kernel
theorem tyX2_ok : ∀ k, k < 14 → parseFieldDescriptor (TX2 k).2.2.1 = some (tyX2 k) := by decide +kernel
abbrev cX2_init : ByteArray := prog_1_method_1_code
def yX2_init : MethodName := ⟨RX2, "<init>", "()V"⟩
abbrev cX2_write : ByteArray := prog_1_method_2_code
def yX2_write : MethodName := ⟨RX2, "write", "(IJ)I"⟩
abbrev cX2_wipe : ByteArray := prog_1_method_3_code
def yX2_wipe : MethodName := ⟨RX2, "wipe", "()I"⟩
abbrev cX2_fault : ByteArray := prog_1_method_4_code
def yX2_fault : MethodName := ⟨RX2, "fault", "()I"⟩
abbrev cX2_mine : ByteArray := prog_1_method_5_code
def yX2_mine : MethodName := ⟨RX2, "mine", "()I"⟩
abbrev cX2_about : ByteArray := prog_1_method_6_code
def yX2_about : MethodName := ⟨RX2, "about", "(I)I"⟩
abbrev cX2_cell : ByteArray := prog_1_method_7_code
def yX2_cell : MethodName := ⟨RX2, "cell", "(II)I"⟩
abbrev cX2_monk : ByteArray := prog_1_method_8_code
def yX2_monk : MethodName := ⟨RX2, "monk", "(II)I"⟩
abbrev cX2_pray : ByteArray := prog_1_method_9_code
def yX2_pray : MethodName := ⟨RX2, "pray", "(I)I"⟩
abbrev cX2_oath : ByteArray := prog_1_method_10_code
def yX2_oath : MethodName := ⟨RX2, "oath", "(I)I"⟩
abbrev cX2_doubt : ByteArray := prog_1_method_11_code
def yX2_doubt : MethodName := ⟨RX2, "doubt", "(I)I"⟩
abbrev cX2_walk : ByteArray := prog_1_method_12_code
def yX2_walk : MethodName := ⟨RX2, "walk", "(II)I"⟩
abbrev cX2_day : ByteArray := prog_1_method_13_code
def yX2_day : MethodName := ⟨RX2, "day", "()I"⟩
abbrev cX2_undo : ByteArray := prog_1_method_14_code
def yX2_undo : MethodName := ⟨RX2, "undo", "()I"⟩
abbrev cX2_falls : ByteArray := prog_1_method_15_code
def yX2_falls : MethodName := ⟨RX2, "falls", "(I)I"⟩
abbrev cX2_psalm : ByteArray := prog_1_method_16_code
def yX2_psalm : MethodName := ⟨RX2, "psalm", "(II)I"⟩
abbrev cX2_best : ByteArray := prog_1_method_17_code
def yX2_best : MethodName := ⟨RX2, "best", "(I)I"⟩
abbrev cX2_bestAt : ByteArray := prog_1_method_18_code
def yX2_bestAt : MethodName := ⟨RX2, "bestAt", "(II)I"⟩
abbrev cX2_oaths : ByteArray := prog_1_method_19_code
def yX2_oaths : MethodName := ⟨RX2, "oaths", "()I"⟩
abbrev cX2_down : ByteArray := prog_1_method_20_code
def yX2_down : MethodName := ⟨RX2, "down", "(I)I"⟩
abbrev cX2_see : ByteArray := prog_1_method_21_code
def yX2_see : MethodName := ⟨RX2, "see", "(II)I"⟩
abbrev cX2_unsee : ByteArray := prog_1_method_22_code
def yX2_unsee : MethodName := ⟨RX2, "unsee", "()I"⟩
abbrev cX2_silent : ByteArray := prog_1_method_23_code
def yX2_silent : MethodName := ⟨RX2, "silent", "(I)I"⟩
abbrev cX2_chance : ByteArray := prog_1_method_24_code
def yX2_chance : MethodName := ⟨RX2, "chance", "(IIZ)I"⟩
abbrev cX2_seed : ByteArray := prog_1_method_25_code
def yX2_seed : MethodName := ⟨RX2, "seed", "(J)J"⟩
abbrev cX2_month : ByteArray := prog_1_method_26_code
def yX2_month : MethodName := ⟨RX2, "month", "(II)I"⟩
abbrev cX2_keep : ByteArray := prog_1_method_27_code
def yX2_keep : MethodName := ⟨RX2, "keep", "(I)I"⟩
abbrev cX2_again : ByteArray := prog_1_method_28_code
def yX2_again : MethodName := ⟨RX2, "again", "(I)I"⟩
abbrev cX2_isCell : ByteArray := prog_1_method_29_code
def yX2_isCell : MethodName := ⟨RX2, "isCell", "(I)Z"⟩
abbrev cX2_has : ByteArray := prog_1_method_30_code
def yX2_has : MethodName := ⟨RX2, "has", "(II)Z"⟩
abbrev cX2_at : ByteArray := prog_1_method_31_code
def yX2_at : MethodName := ⟨RX2, "at", "([II)I"⟩
abbrev cX2_put : ByteArray := prog_1_method_32_code
def yX2_put : MethodName := ⟨RX2, "put", "([III)V"⟩
abbrev cX2_readText : ByteArray := prog_1_method_33_code
def yX2_readText : MethodName := ⟨RX2, "readText", "()I"⟩
abbrev cX2_remember : ByteArray := prog_1_method_34_code
def yX2_remember : MethodName := ⟨RX2, "remember", "()V"⟩
abbrev cX2_breakOf : ByteArray := prog_1_method_35_code
def yX2_breakOf : MethodName := ⟨RX2, "breakOf", "(I)I"⟩
abbrev cX2_bestCode : ByteArray := prog_1_method_36_code
def yX2_bestCode : MethodName := ⟨RX2, "bestCode", "(I)I"⟩
abbrev cX2_setSong : ByteArray := prog_1_method_37_code
def yX2_setSong : MethodName := ⟨RX2, "setSong", "(II)V"⟩
abbrev cX2_figureOf : ByteArray := prog_1_method_38_code
def yX2_figureOf : MethodName := ⟨RX2, "figureOf", "(III)I"⟩
abbrev cX2_isSeenBy : ByteArray := prog_1_method_39_code
def yX2_isSeenBy : MethodName := ⟨RX2, "isSeenBy", "(I)Z"⟩
abbrev cX2_weightOf : ByteArray := prog_1_method_40_code
def yX2_weightOf : MethodName := ⟨RX2, "weightOf", "(III)I"⟩
abbrev cX2_commonDivisor : ByteArray := prog_1_method_41_code
def yX2_commonDivisor : MethodName := ⟨RX2, "commonDivisor", "(II)I"⟩
abbrev cX2_nextTenth : ByteArray := prog_1_method_42_code
def yX2_nextTenth : MethodName := ⟨RX2, "nextTenth", "()I"⟩
def RX3 : String := "PrayerTailingsModel"
def TX3 : u_T := fun k => match k with
  | 0 => ("PrayerTailingsModel", "thrown", "I", false)
  | 1 => ("PrayerTailingsModel", "text", "[I", true)
  | 2 => ("PrayerTailingsModel", "textSize", "I", false)
  | 3 => ("PrayerTailingsModel", "place", "I", false)
  | 4 => ("PrayerTailingsModel", "hold", "I", false)
  | 5 => ("PrayerTailingsModel", "monks", "I", false)
  | 6 => ("PrayerTailingsModel", "sect", "[I", true)
  | 7 => ("PrayerTailingsModel", "page", "[I", true)
  | 8 => ("PrayerTailingsModel", "readHold", "I", false)
  | 9 => ("PrayerTailingsModel", "readMonks", "I", false)
  | 10 => ("PrayerTailingsModel", "readCells", "I", false)
  | 11 => ("PrayerTailingsModel", "readTold", "I", false)
  | 12 => ("PrayerTailingsModel", "readPage", "[I", true)
  | 13 => ("PrayerTailingsModel", "readSect", "[I", true)
  | 14 => ("PrayerTailingsModel", "seed", "J", false)
  | 15 => ("PrayerTailingsModel", "book", "[I", true)
  | 16 => ("PrayerTailingsModel", "acts", "I", false)
  | 17 => ("PrayerTailingsModel", "kept", "[I", true)
  | 18 => ("PrayerTailingsModel", "isKept", "[Z", true)
  | 19 => ("PrayerTailingsModel", "seen", "I", false)
  | 20 => ("PrayerTailingsModel", "seenCell", "[I", true)
  | 21 => ("PrayerTailingsModel", "seenBy", "[I", true)
  | 22 => ("PrayerTailingsModel", "tried", "[I", true)
  | _ => ("PrayerTailingsModel", "bestRow", "I", false)
def tyX3 : Nat → FieldType := fun k => match k with
  | 0 => .int
  | 1 => .array .int
  | 2 => .int
  | 3 => .int
  | 4 => .int
  | 5 => .int
  | 6 => .array .int
  | 7 => .array .int
  | 8 => .int
  | 9 => .int
  | 10 => .int
  | 11 => .int
  | 12 => .array .int
  | 13 => .array .int
  | 14 => .long
  | 15 => .array .int
  | 16 => .int
  | 17 => .array .int
  | 18 => .array .boolean
  | 19 => .int
  | 20 => .array .int
  | 21 => .array .int
  | 22 => .array .int
  | _ => .int
theorem nmX3 : ∀ a, a < 24 → ∀ b, b < 24 → a ≠ b → (TX3 a).2.1 ≠ (TX3 b).2.1 := by decide +kernel
theorem tyX3_ok : ∀ k, k < 24 → parseFieldDescriptor (TX3 k).2.2.1 = some (tyX3 k) := by decide +kernel
abbrev cX3_init : ByteArray := prog_5_method_1_code
def yX3_init : MethodName := ⟨RX3, "<init>", "()V"⟩
abbrev cX3_in : ByteArray := prog_5_method_3_code
def yX3_in : MethodName := ⟨RX3, "in", "(JJJ)Z"⟩
abbrev cX3_has : ByteArray := prog_5_method_4_code
def yX3_has : MethodName := ⟨RX3, "has", "(II)Z"⟩
abbrev cX3_noMonk : ByteArray := prog_5_method_5_code
def yX3_noMonk : MethodName := ⟨RX3, "noMonk", "(I)Z"⟩
abbrev cX3_noCell : ByteArray := prog_5_method_6_code
def yX3_noCell : MethodName := ⟨RX3, "noCell", "(I)Z"⟩
abbrev cX3_write : ByteArray := prog_5_method_7_code
def yX3_write : MethodName := ⟨RX3, "write", "(IJ)I"⟩
abbrev cX3_wipe : ByteArray := prog_5_method_8_code
def yX3_wipe : MethodName := ⟨RX3, "wipe", "()I"⟩
abbrev cX3_figure : ByteArray := prog_5_method_9_code
def yX3_figure : MethodName := ⟨RX3, "figure", "(II)I"⟩
abbrev cX3_readCellOf : ByteArray := prog_5_method_10_code
def yX3_readCellOf : MethodName := ⟨RX3, "readCellOf", "(I)I"⟩
abbrev cX3_readCell : ByteArray := prog_5_method_11_code
def yX3_readCell : MethodName := ⟨RX3, "readCell", "()Z"⟩
abbrev cX3_readMonk : ByteArray := prog_5_method_12_code
def yX3_readMonk : MethodName := ⟨RX3, "readMonk", "()Z"⟩
abbrev cX3_readPart : ByteArray := prog_5_method_13_code
def yX3_readPart : MethodName := ⟨RX3, "readPart", "()Z"⟩
abbrev cX3_readMine : ByteArray := prog_5_method_14_code
def yX3_readMine : MethodName := ⟨RX3, "readMine", "()I"⟩
abbrev cX3_fault : ByteArray := prog_5_method_15_code
def yX3_fault : MethodName := ⟨RX3, "fault", "()I"⟩
abbrev cX3_mine : ByteArray := prog_5_method_16_code
def yX3_mine : MethodName := ⟨RX3, "mine", "()I"⟩
abbrev cX3_areNext : ByteArray := prog_5_method_17_code
def yX3_areNext : MethodName := ⟨RX3, "areNext", "(II)Z"⟩
abbrev cX3_thereOf : ByteArray := prog_5_method_18_code
def yX3_thereOf : MethodName := ⟨RX3, "thereOf", "(I)I"⟩
abbrev cX3_about : ByteArray := prog_5_method_19_code
def yX3_about : MethodName := ⟨RX3, "about", "(I)I"⟩
abbrev cX3_cell : ByteArray := prog_5_method_20_code
def yX3_cell : MethodName := ⟨RX3, "cell", "(II)I"⟩
abbrev cX3_timesOf : ByteArray := prog_5_method_21_code
def yX3_timesOf : MethodName := ⟨RX3, "timesOf", "([II)I"⟩
abbrev cX3_monk : ByteArray := prog_5_method_22_code
def yX3_monk : MethodName := ⟨RX3, "monk", "(II)I"⟩
abbrev cX3_note : ByteArray := prog_5_method_23_code
def yX3_note : MethodName := ⟨RX3, "note", "()V"⟩
abbrev cX3_loosen : ByteArray := prog_5_method_24_code
def yX3_loosen : MethodName := ⟨RX3, "loosen", "([III)V"⟩
abbrev cX3_fall : ByteArray := prog_5_method_25_code
def yX3_fall : MethodName := ⟨RX3, "fall", "([I)I"⟩
abbrev cX3_goPray : ByteArray := prog_5_method_26_code
def yX3_goPray : MethodName := ⟨RX3, "goPray", "([II)I"⟩
abbrev cX3_goDay : ByteArray := prog_5_method_27_code
def yX3_goDay : MethodName := ⟨RX3, "goDay", "([I)I"⟩
abbrev cX3_noOne : ByteArray := prog_5_method_28_code
def yX3_noOne : MethodName := ⟨RX3, "noOne", "(I)I"⟩
abbrev cX3_pray : ByteArray := prog_5_method_29_code
def yX3_pray : MethodName := ⟨RX3, "pray", "(I)I"⟩
abbrev cX3_oath : ByteArray := prog_5_method_30_code
def yX3_oath : MethodName := ⟨RX3, "oath", "(I)I"⟩
abbrev cX3_doubt : ByteArray := prog_5_method_31_code
def yX3_doubt : MethodName := ⟨RX3, "doubt", "(I)I"⟩
abbrev cX3_walk : ByteArray := prog_5_method_32_code
def yX3_walk : MethodName := ⟨RX3, "walk", "(II)I"⟩
abbrev cX3_day : ByteArray := prog_5_method_33_code
def yX3_day : MethodName := ⟨RX3, "day", "()I"⟩
abbrev cX3_undo : ByteArray := prog_5_method_34_code
def yX3_undo : MethodName := ⟨RX3, "undo", "()I"⟩
abbrev cX3_begin : ByteArray := prog_5_method_35_code
def yX3_begin : MethodName := ⟨RX3, "begin", "()V"⟩
abbrev cX3_falls : ByteArray := prog_5_method_36_code
def yX3_falls : MethodName := ⟨RX3, "falls", "(I)I"⟩
abbrev cX3_ten : ByteArray := prog_5_method_37_code
def yX3_ten : MethodName := ⟨RX3, "ten", "(I)I"⟩
abbrev cX3_goPsalm : ByteArray := prog_5_method_38_code
def yX3_goPsalm : MethodName := ⟨RX3, "goPsalm", "(II)I"⟩
abbrev cX3_psalm : ByteArray := prog_5_method_39_code
def yX3_psalm : MethodName := ⟨RX3, "psalm", "(II)I"⟩
abbrev cX3_findBest : ByteArray := prog_5_method_40_code
def yX3_findBest : MethodName := ⟨RX3, "findBest", "(I)I"⟩
abbrev cX3_best : ByteArray := prog_5_method_41_code
def yX3_best : MethodName := ⟨RX3, "best", "(I)I"⟩
abbrev cX3_bestAt : ByteArray := prog_5_method_42_code
def yX3_bestAt : MethodName := ⟨RX3, "bestAt", "(II)I"⟩
abbrev cX3_oaths : ByteArray := prog_5_method_43_code
def yX3_oaths : MethodName := ⟨RX3, "oaths", "()I"⟩
abbrev cX3_prayAll : ByteArray := prog_5_method_44_code
def yX3_prayAll : MethodName := ⟨RX3, "prayAll", "([II)V"⟩
abbrev cX3_down : ByteArray := prog_5_method_45_code
def yX3_down : MethodName := ⟨RX3, "down", "(I)I"⟩
abbrev cX3_see : ByteArray := prog_5_method_46_code
def yX3_see : MethodName := ⟨RX3, "see", "(II)I"⟩
abbrev cX3_unsee : ByteArray := prog_5_method_47_code
def yX3_unsee : MethodName := ⟨RX3, "unsee", "()I"⟩
abbrev cX3_silent : ByteArray := prog_5_method_48_code
def yX3_silent : MethodName := ⟨RX3, "silent", "(I)I"⟩
abbrev cX3_divisor : ByteArray := prog_5_method_49_code
def yX3_divisor : MethodName := ⟨RX3, "divisor", "(II)I"⟩
abbrev cX3_chance : ByteArray := prog_5_method_50_code
def yX3_chance : MethodName := ⟨RX3, "chance", "(IIZ)I"⟩
abbrev cX3_seed : ByteArray := prog_5_method_51_code
def yX3_seed : MethodName := ⟨RX3, "seed", "(J)J"⟩
abbrev cX3_month : ByteArray := prog_5_method_52_code
def yX3_month : MethodName := ⟨RX3, "month", "(II)I"⟩
abbrev cX3_keep : ByteArray := prog_5_method_53_code
def yX3_keep : MethodName := ⟨RX3, "keep", "(I)I"⟩
abbrev cX3_again : ByteArray := prog_5_method_54_code
def yX3_again : MethodName := ⟨RX3, "again", "(I)I"⟩
def RJ6 : String := "java/lang/Integer"
abbrev cJ6_bitCount_0f7a4 : ByteArray := prog_6_method_49_code
def yJ6_bitCount_0f7a4 : MethodName := ⟨RJ6, "bitCount", "(I)I"⟩
def RJ9 : String := "java/lang/Math"
abbrev cJ9_max_7cf53 : ByteArray := prog_7_method_65_code
def yJ9_max_7cf53 : MethodName := ⟨RJ9, "max", "(II)I"⟩
abbrev cJ9_min_7cf53 : ByteArray := prog_7_method_69_code
def yJ9_min_7cf53 : MethodName := ⟨RJ9, "min", "(II)I"⟩
def RJ10 : String := "java/lang/System"
def RL : String := "PrayerTailingsLaw"
abbrev cL_law : ByteArray := code
def yL_law : MethodName := ⟨RL, "law", "([I)Z"⟩
abbrev vwCl : List vw_C := [(RX0, TX0, 12), (RX1, TX1, 4), (RX2, TX2, 14), (RX3, TX3, 24)]

/-- the words of the tables that every state bears on -/
def xW : List Cond := lw_tbl.filter goodWord
theorem xw_in {w : Cond} (i : Nat) (h : tables_1[i]? = some w) (hg : goodWord w = true) : w ∈ xW := List.mem_filter.mpr ⟨List.mem_append_right _ (List.mem_of_getElem? h), hg⟩
theorem xw_pr {w : Cond} (i : Nat) (h : (k2_sels lw_privs)[i]? = some w) (hg : goodWord w = true) : w ∈ xW := List.mem_filter.mpr ⟨List.mem_append_left _ (List.mem_of_getElem? h), hg⟩
def xnest : List Cond := [.methodLinkNest RX2 15 yX1_init RX2, .methodLinkNest RX1 11 yX0_init RX2, .methodLinkNest RX2 22 yX0_init RX2, .methodLinkNest RX0 71 yX2_put RX2, .methodLinkNest RX1 81 yX2_isCell RX2, .methodLinkNest RX1 84 yX2_has RX2, .methodLinkNest RX1 87 yX2_put RX2, .methodLinkNest RX0 59 yX2_has RX2, .methodLinkNest RX0 67 yX2_at RX2, .fieldLinkNest RX0 83 RX2 "NEAR" "[I" RX2]
theorem xin0 : ∀ w ∈ u_ws RX0 TX0 12, w ∈ xW := by
  intro w hw
  obtain ⟨k, hk, rfl⟩ := List.mem_map.mp hw
  have hk := List.mem_range.mp hk
  match k, hk with
  | 0, _ => exact xw_in 57 (by decide +kernel) (by decide +kernel)
  | 1, _ => exact xw_in 59 (by decide +kernel) (by decide +kernel)
  | 2, _ => exact xw_in 61 (by decide +kernel) (by decide +kernel)
  | 3, _ => exact xw_in 63 (by decide +kernel) (by decide +kernel)
  | 4, _ => exact xw_in 65 (by decide +kernel) (by decide +kernel)
  | 5, _ => exact xw_in 67 (by decide +kernel) (by decide +kernel)
  | 6, _ => exact xw_in 69 (by decide +kernel) (by decide +kernel)
  | 7, _ => exact xw_in 71 (by decide +kernel) (by decide +kernel)
  | 8, _ => exact xw_in 73 (by decide +kernel) (by decide +kernel)
  | 9, _ => exact xw_in 75 (by decide +kernel) (by decide +kernel)
  | 10, _ => exact xw_in 77 (by decide +kernel) (by decide +kernel)
  | 11, _ => exact xw_in 79 (by decide +kernel) (by decide +kernel)
  | k + 12, h => exact absurd h (by omega)
theorem xin1 : ∀ w ∈ u_ws RX1 TX1 4, w ∈ xW := by
  intro w hw
  obtain ⟨k, hk, rfl⟩ := List.mem_map.mp hw
  have hk := List.mem_range.mp hk
  match k, hk with
  | 0, _ => exact xw_in 88 (by decide +kernel) (by decide +kernel)
  | 1, _ => exact xw_in 90 (by decide +kernel) (by decide +kernel)
  | 2, _ => exact xw_in 92 (by decide +kernel) (by decide +kernel)
  | 3, _ => exact xw_in 94 (by decide +kernel) (by decide +kernel)
  | k + 4, h => exact absurd h (by omega)
theorem xin2 : ∀ w ∈ u_ws RX2 TX2 14, w ∈ xW := by
  intro w hw
  obtain ⟨k, hk, rfl⟩ := List.mem_map.mp hw
  have hk := List.mem_range.mp hk
  match k, hk with
  | 0, _ => exact xw_in 114 (by decide +kernel) (by decide +kernel)
  | 1, _ => exact xw_in 116 (by decide +kernel) (by decide +kernel)
  | 2, _ => exact xw_in 118 (by decide +kernel) (by decide +kernel)
  | 3, _ => exact xw_in 120 (by decide +kernel) (by decide +kernel)
  | 4, _ => exact xw_in 122 (by decide +kernel) (by decide +kernel)
  | 5, _ => exact xw_in 124 (by decide +kernel) (by decide +kernel)
  | 6, _ => exact xw_in 126 (by decide +kernel) (by decide +kernel)
  | 7, _ => exact xw_in 128 (by decide +kernel) (by decide +kernel)
  | 8, _ => exact xw_in 130 (by decide +kernel) (by decide +kernel)
  | 9, _ => exact xw_in 132 (by decide +kernel) (by decide +kernel)
  | 10, _ => exact xw_in 134 (by decide +kernel) (by decide +kernel)
  | 11, _ => exact xw_in 136 (by decide +kernel) (by decide +kernel)
  | 12, _ => exact xw_in 138 (by decide +kernel) (by decide +kernel)
  | 13, _ => exact xw_in 140 (by decide +kernel) (by decide +kernel)
  | k + 14, h => exact absurd h (by omega)
theorem xin3 : ∀ w ∈ u_ws RX3 TX3 24, w ∈ xW := by
  intro w hw
  obtain ⟨k, hk, rfl⟩ := List.mem_map.mp hw
  have hk := List.mem_range.mp hk
  match k, hk with
  | 0, _ => exact xw_in 495 (by decide +kernel) (by decide +kernel)
  | 1, _ => exact xw_in 497 (by decide +kernel) (by decide +kernel)
  | 2, _ => exact xw_in 499 (by decide +kernel) (by decide +kernel)
  | 3, _ => exact xw_in 501 (by decide +kernel) (by decide +kernel)
  | 4, _ => exact xw_in 503 (by decide +kernel) (by decide +kernel)
  | 5, _ => exact xw_in 505 (by decide +kernel) (by decide +kernel)
  | 6, _ => exact xw_in 507 (by decide +kernel) (by decide +kernel)
  | 7, _ => exact xw_in 509 (by decide +kernel) (by decide +kernel)
  | 8, _ => exact xw_in 511 (by decide +kernel) (by decide +kernel)
  | 9, _ => exact xw_in 513 (by decide +kernel) (by decide +kernel)
  | 10, _ => exact xw_in 515 (by decide +kernel) (by decide +kernel)
  | 11, _ => exact xw_in 517 (by decide +kernel) (by decide +kernel)
  | 12, _ => exact xw_in 519 (by decide +kernel) (by decide +kernel)
  | 13, _ => exact xw_in 521 (by decide +kernel) (by decide +kernel)
  | 14, _ => exact xw_in 523 (by decide +kernel) (by decide +kernel)
  | 15, _ => exact xw_in 525 (by decide +kernel) (by decide +kernel)
  | 16, _ => exact xw_in 527 (by decide +kernel) (by decide +kernel)
  | 17, _ => exact xw_in 529 (by decide +kernel) (by decide +kernel)
  | 18, _ => exact xw_in 531 (by decide +kernel) (by decide +kernel)
  | 19, _ => exact xw_in 533 (by decide +kernel) (by decide +kernel)
  | 20, _ => exact xw_in 535 (by decide +kernel) (by decide +kernel)
  | 21, _ => exact xw_in 537 (by decide +kernel) (by decide +kernel)
  | 22, _ => exact xw_in 539 (by decide +kernel) (by decide +kernel)
  | 23, _ => exact xw_in 541 (by decide +kernel) (by decide +kernel)
  | k + 24, h => exact absurd h (by omega)
end
section
/-! THE MACHINE, TOLD SIMPLY. A memory of typed rows over the cells from b0 on: T tells each cell's tag and length (0..3: an object of that class, 4: int[], 5: boolean[], 6: Mine[]),
R, L, I what references, longs and ints it holds. xV: from this place of this method, with these locals, this stack and this memory, the method comes to its end with the outcome o. -/
abbrev xG : Type := va_G × (ClassId × ClassId × ClassId) × Nat × Nat × (Nat × Nat × (Nat → Int32))
abbrev xT : Type := List (Nat × Nat)
abbrev xR : Type := Nat → Nat → Option Nat
abbrev xL : Type := Nat → Nat → Int64
abbrev xI : Type := Nat → Nat → Int32
abbrev xY : Type := MethodName × ByteArray × Nat × Option FieldType × Nat × Nat
abbrev xO : Type := Option Value × xT × xR × xL × xI
def xfk (ci k : Nat) : Nat := match ci with
  | 0 => if k < 5 then 2 else 0
  | 1 => if k = 0 then 2 else 0
  | 2 => ([2, 0, 2, 2, 2, 2, 2, 0, 2, 0, 2, 2, 0, 1] : List Nat).getD k 0
  | _ => ([0, 2, 0, 0, 0, 0, 2, 2, 0, 0, 0, 0, 2, 2, 1, 2, 0, 2, 2, 0, 2, 2, 2, 0] : List Nat).getD k 0
def xnf (ci : Nat) : Nat := match ci with | 0 => 12 | 1 => 4 | 2 => 14 | _ => 24
def xcn (ci : Nat) : String := match ci with | 0 => RX0 | 1 => RX1 | 2 => RX2 | _ => RX3
def xct (ci : Nat) : u_T := match ci with | 0 => TX0 | 1 => TX1 | 2 => TX2 | _ => TX3
def xcy (ci : Nat) : Nat → FieldType := match ci with | 0 => tyX0 | 1 => tyX1 | 2 => tyX2 | _ => tyX3
def xfv (ci k : Nat) (r : Nat → Option Nat) (l : Nat → Int64) (i : Nat → Int32) : Value := match xfk ci k with
  | 0 => .int (i k)
  | 1 => .long (l k)
  | _ => va_rf (r k)
def xmk (cs : ClassId × ClassId × ClassId) (t : Nat × Nat) (r : Nat → Option Nat) (l : Nat → Int64) (i : Nat → Int32) : va_E := match t.1 with
  | 4 => .inl (cs.1, t.2, .inl i)
  | 5 => .inl (cs.2.1, t.2, .inl i)
  | 6 => .inl (cs.2.2, t.2, .inr (.inr (.inr (.inr r))))
  | ci => if ci < 4 then .inr (ci, (List.range (xnf ci)).map (fun k => xfv ci k r l i)) else .inr (99, [])
def xSh (G : xG) (T : xT) (a : Nat) : Nat × Nat := if a < G.2.2.1 then (99, 0) else (T[a - G.2.2.1]?).getD (99, 0)
def xE (G : xG) (T : xT) (R : xR) (L : xL) (I : xI) (a : Nat) : va_E := xmk G.2.1 (xSh G T a) (R a) (L a) (I a)
def xads (G : xG) (T : xT) : List Nat := List.range' G.2.2.1 T.length
def xRp (G : xG) (T : xT) (R : xR) (L : xL) (I : xI) (H : Heap) : Prop := G.2.2.1 + T.length ≤ H.size ∧ va_P G.1 vwCl (va_pl (xads G T) (xE G T R L I)) H
def xA (G : xG) : Nat → Prop := fun q => G.2.2.1 ≤ q
def xnear (j : Nat) : Int32 := ([18, 37, 74, 132, 289, 594, 1188, 2120, 528, 1312, 2624, 1152] : List Int32).getD j 0
def xtys (G : xG) : List (ClassId × FieldType) := [(G.2.1.1, .int), (G.2.1.2.1, .boolean), (G.2.1.2.2, .object RX0)]
def xCx (G : xG) (s : State) : Prop := G.2.2.1 ≤ s.heap.size ∧ va_K G.1 vwCl (xtys G) s ∧ va_Z RX2 "NEAR" "[I" (.ref G.2.2.2.1) (xA G) s s.heap ∧ va_T .int G.2.2.2.1 12 (fun j => .int (xnear j)) (xA G) s s.heap ∧
  va_T .int G.2.2.2.2.1 G.2.2.2.2.2.1 (fun j => .int (G.2.2.2.2.2.2 j)) (xA G) s s.heap ∧ (∀ w ∈ xnest, va_Nw w s) ∧ va_AO RX0 s
def xsz (t : Nat × Nat) : Nat := if t.1 < 4 then xnf t.1 else t.2
def xZ (T : xT) : Nat := (T.map xsz).sum
def xle (A B : xT) : Prop := A.length ≤ B.length ∧ xZ A ≤ xZ B
theorem xle_r (A : xT) : xle A A := ⟨Nat.le_refl _, Nat.le_refl _⟩
def xws (Y : xY) : List Cond := .code Y.1 Y.2.1 Y.2.2.1 Y.2.2.2.1 :: xW
def xe : Nat → List (Option Value) → List (Nat × Value)
  | _, [] => []
  | i, some v :: t => (i, v) :: xe (i + 1) t
  | i, none :: t => xe (i + 1) t
def xret : Option FieldType → Instr
  | none => .return_
  | some .long => .lreturn
  | some _ => .ireturn
def xFix (G : xG) (Y : xY) (Tb : xT) (p : Program) (s : State) (m : MethodId) (args : Array Value) (meth : Method) (c : Code) : Prop :=
  p.tables.exec = Jvm.exec ∧ c.code = Y.2.1 ∧ c.maxLocals = Y.2.2.1 ∧ s.vm.findClass Y.1.cls = some m.cls ∧ (∀ w ∈ xW, w.before args s = true) ∧ (Y.1.name = "<init>" → meth.name = "<init>") ∧ s.heap.size = G.2.2.1 + Tb.length ∧ xCx G s
def xEnd (G : xG) (Y : xY) (p : Program) (l : Launch) (e : Env) (Rm : Room) (s : State) (m : MethodId) (args : Array Value) (below : List Frame) (meth : Method) (c : Code) (Tb : xT) (o : xO) (Q : State → Prop) : Prop :=
  ∀ (H : Heap) (locs : List Loc) (ls : Array Slot) (pc : Nat), decode Y.2.1 pc = .ok (xret Y.2.2.2.1, 1) → xRp G o.2.1 o.2.2.1 o.2.2.2.1 o.2.2.2.2 H → va_S (xA G) s.heap H locs →
    W p l e Rm s m args below meth c H locs (o.2.1.length - Tb.length) (xZ o.2.1 - xZ Tb) Q (F0 m pc ls o.1.toList)
def xV (G : xG) (Y : xY) (Tb : xT) (o : xO) (pc : Nat) (xl : List (Option Value)) (st : List Value) (T : xT) (R : xR) (L : xL) (I : xI) : Prop :=
  ∀ (p : Program) (l : Launch) (e : Env) (Rm : Room) (s : State) (m : MethodId) (args : Array Value) (below : List Frame) (meth : Method) (c : Code) (H : Heap) (locs : List Loc) (Q : State → Prop) (ls : Array Slot),
    xFix G Y Tb p s m args meth c → (Rm.frames = Y.2.2.2.2.1 ∧ Rm.locals = Y.2.2.2.2.2 ∧ o.2.1.length - Tb.length ≤ Rm.cells ∧ xZ o.2.1 - xZ Tb ≤ Rm.slots) →
    lv_has ls Y.2.2.1 (xe 0 xl) → xl.length = Y.2.2.1 → xRp G T R L I H → va_S (xA G) s.heap H locs → xEnd G Y p l e Rm s m args below meth c Tb o Q →
    W p l e Rm s m args below meth c H locs (T.length - Tb.length) (xZ T - xZ Tb) Q (F0 m pc ls st)
def xQ (o : xO) (G : xG) : Array Value → State → Outcome → State → Prop := fun _ st oc t => oc = .returned o.1 ∧ xRp G o.2.1 o.2.2.1 o.2.2.2.1 o.2.2.2.2 t.heap ∧ va_F (xA G) st t
/-- a method's contract: called with these arguments over this memory it returns with the outcome o -/
def xCon (G : xG) (Y : xY) (av : List Value) (T : xT) (R : xR) (L : xL) (I : xI) (o : xO) : Prop :=
  xle T o.2.1 ∧ ∀ l : Launch, Met l Y.1 (xws Y) { frames := Y.2.2.2.2.1, cells := o.2.1.length - T.length, slots := xZ o.2.1 - xZ T, locals := Y.2.2.2.2.2 }
    (va_Pc av (fun U => U.heap.size = G.2.2.1 + T.length ∧ xCx G U ∧ xRp G T R L I U.heap)) (xQ o G) (o.2.1.length - T.length) (xZ o.2.1 - xZ T) (xA G)
-- ===== small facts =====
theorem xcl {ci : Nat} (h : ci < 4) : vwCl[ci]? = some (xcn ci, xct ci, xnf ci) := by
  match ci, h with
  | 0, _ => rfl
  | 1, _ => rfl
  | 2, _ => rfl
  | 3, _ => rfl
theorem xcy_ok {ci : Nat} (h : ci < 4) : ∀ k, k < xnf ci → parseFieldDescriptor ((xct ci) k).2.2.1 = some ((xcy ci) k) := by
  match ci, h with
  | 0, _ => exact tyX0_ok
  | 1, _ => exact tyX1_ok
  | 2, _ => exact tyX2_ok
  | 3, _ => exact tyX3_ok
theorem xcy_nm {ci : Nat} (h : ci < 4) : ∀ a, a < xnf ci → ∀ b, b < xnf ci → a ≠ b → ((xct ci) a).2.1 ≠ ((xct ci) b).2.1 := by
  match ci, h with
  | 0, _ => exact nmX0
  | 1, _ => exact nmX1
  | 2, _ => exact nmX2
  | 3, _ => exact nmX3
theorem xmk_obj {cs : ClassId × ClassId × ClassId} {t : Nat × Nat} {r : Nat → Option Nat} {l : Nat → Int64} {i : Nat → Int32} {ci : Nat} (h : t.1 = ci) (h4 : ci < 4) : xmk cs t r l i = .inr (ci, (List.range (xnf ci)).map (fun k => xfv ci k r l i)) := by
  subst h
  obtain ⟨a, b⟩ := t
  match a, h4 with
  | 0, _ => rfl
  | 1, _ => rfl
  | 2, _ => rfl
  | 3, _ => rfl
theorem xmk_hi {cs : ClassId × ClassId × ClassId} {n t2 : Nat} {r : Nat → Option Nat} {l : Nat → Int64} {i : Nat → Int32} : xmk cs (n + 7, t2) r l i = .inr (99, []) := by
  show (if n + 7 < 4 then (Sum.inr (n + 7, (List.range (xnf (n + 7))).map (fun k => xfv (n + 7) k r l i)) : va_E) else .inr (99, [])) = .inr (99, [])
  rw [if_neg (by omega)]
theorem xsh_in {G : xG} {T : xT} {a : Nat} (h : (xSh G T a).1 < 99) : a ∈ xads G T := by
  unfold xSh at h
  split at h
  · exact absurd h (by decide)
  · rename_i hb
    by_cases hl : a - G.2.2.1 < T.length
    · exact List.mem_range'_1.mpr ⟨by omega, by omega⟩
    · rw [List.getElem?_eq_none (by omega)] at h
      exact absurd h (by decide)
theorem xads_at {G : xG} {T : xT} {f : Nat → va_E} {k : Nat} {q : Nat × va_E} (h : (va_pl (xads G T) f)[k]? = some q) : q.1 = G.2.2.1 + k := by
  simp only [va_pl, xads, List.getElem?_map, Option.map_eq_some_iff] at h
  obtain ⟨a, ha, rfl⟩ := h
  obtain ⟨h1, h2⟩ := List.getElem?_eq_some_iff.mp ha
  rw [← h2, List.getElem_range']
  simp
theorem xD_ok (G : xG) (T : xT) (f : Nat → va_E) : va_D (xA G) (va_pl (xads G T) f) := by
  refine ⟨fun i j p q hi hj hpq => ?_, fun k q hk => ?_⟩
  · have h1 := xads_at hi
    have h2 := xads_at hj
    omega
  · have h1 := xads_at hk
    show G.2.2.1 ≤ q.1
    omega
theorem xpl_get {L : List Nat} {f : Nat → va_E} {a : Nat} (h : a ∈ L) : ∃ k : Nat, (va_pl L f)[k]? = some (a, f a) := by
  apply List.getElem?_of_mem
  exact List.mem_map.mpr ⟨a, h, rfl⟩
theorem xpl_set {A : Nat → Prop} {L : List Nat} {f : Nat → va_E} {a k : Nat} {e : va_E} (hD : va_D A (va_pl L f)) (h : a ∈ L) (hk : (va_pl L f)[k]? = some (a, f a)) : (va_pl L f).set k (a, e) = va_pl L (va_up f a e) :=
  va_pl_set (X := []) hD h hk
theorem xe_mem : ∀ (xl : List (Option Value)) (k : Nat) (q : Nat × Value), q ∈ xe k xl ↔ ∃ j, q.1 = k + j ∧ xl[j]? = some (some q.2) := by
  intro xl
  induction xl with
  | nil => intro k q; simp [xe]
  | cons a t ih =>
    intro k q
    cases a with
    | none =>
      rw [show xe k (none :: t) = xe (k + 1) t from rfl, ih]
      constructor
      · rintro ⟨j, h1, h2⟩
        exact ⟨j + 1, by omega, by simpa using h2⟩
      · rintro ⟨j, h1, h2⟩
        cases j with
        | zero => simp at h2
        | succ j => exact ⟨j, by omega, by simpa using h2⟩
    | some v =>
      rw [show xe k (some v :: t) = (k, v) :: xe (k + 1) t from rfl, List.mem_cons, ih]
      constructor
      · rintro (rfl | ⟨j, h1, h2⟩)
        · exact ⟨0, by simp, by simp⟩
        · exact ⟨j + 1, by omega, by simpa using h2⟩
      · rintro ⟨j, h1, h2⟩
        cases j with
        | zero =>
          left
          simp at h2
          obtain ⟨a, b⟩ := q
          simp at h1 h2
          subst h1; subst h2
          rfl
        | succ j => exact Or.inr ⟨j, by omega, by simpa using h2⟩
theorem xl_at {ls : Array Slot} {n : Nat} {xl : List (Option Value)} (h : lv_has ls n (xe 0 xl)) {i : Nat} {v : Value} (hi : xl[i]? = some (some v)) : ls[i]? = some (.val v) :=
  h.2.2 (i, v) ((xe_mem xl 0 (i, v)).mpr ⟨i, by simp, hi⟩)
theorem xl_le {ls : Array Slot} {n : Nat} {l l' : List (Nat × Value)} (h : lv_has ls n l) (hs : ∀ q ∈ l', q ∈ l) : lv_has ls n l' := ⟨h.1, h.2.1, fun q hq => h.2.2 q (hs q hq)⟩
/-- the slot ahead of i is no long -/
def xlo (xl : List (Option Value)) : Nat → Bool
  | 0 => true
  | j + 1 => match xl[j]? with
    | some (some (.long _)) => false
    | some (some (.double _)) => false
    | _ => true
theorem xlo_ok {xl : List (Option Value)} {j i : Nat} {w : Value} (h : xlo xl i = true) (hj : xl[j]? = some (some w)) (hi : j + 1 = i) : ¬ w.category = 2 := by
  subst hi
  intro hc
  simp only [xlo, hj] at h
  cases w <;> simp [Value.category] at hc h
theorem xl_set1 {ls : Array Slot} {n : Nat} {xl : List (Option Value)} {i : Nat} {v : Value} (hn : i < xl.length) (ho : xlo xl i = true)
    (h : lv_has ls n ((i, v) :: (xe 0 xl).filter (fun q => !(q.1 == i) && !(q.1 + 1 == i && q.2.category == 2)))) : lv_has ls n (xe 0 (xl.set i (some v))) := by
  refine xl_le h (fun q hq => ?_)
  obtain ⟨j, h1, h2⟩ := (xe_mem _ 0 q).mp hq
  by_cases hj : i = j
  · subst hj
    rw [List.getElem?_set_self hn] at h2
    obtain ⟨a, b⟩ := q
    simp at h1 h2
    subst h1; subst h2
    exact List.mem_cons_self
  · rw [List.getElem?_set_ne hj] at h2
    refine List.mem_cons_of_mem _ (List.mem_filter.mpr ⟨(xe_mem _ 0 q).mpr ⟨j, h1, h2⟩, ?_⟩)
    have e1 : q.1 = j := by omega
    have e2 : (q.1 == i) = false := by simp [e1]; omega
    by_cases h3 : j + 1 = i
    · have := xlo_ok ho h2 h3
      simp [e1, this]; omega
    · simp [e1, h3]; omega
theorem xl_set2 {ls : Array Slot} {n : Nat} {xl : List (Option Value)} {i : Nat} {v : Value} (hn : i + 1 < xl.length) (ho : xlo xl i = true)
    (h : lv_has ls n ((i, v) :: (xe 0 xl).filter (fun q => !(q.1 == i) && (!(q.1 == i + 1) && !(q.1 + 1 == i && q.2.category == 2))))) : lv_has ls n (xe 0 ((xl.set i (some v)).set (i + 1) none)) := by
  refine xl_le h (fun q hq => ?_)
  obtain ⟨j, h1, h2⟩ := (xe_mem _ 0 q).mp hq
  by_cases hj1 : i + 1 = j
  · subst hj1
    rw [List.getElem?_set_self (by simpa using hn)] at h2
    simp at h2
  · rw [List.getElem?_set_ne hj1] at h2
    by_cases hj : i = j
    · subst hj
      rw [List.getElem?_set_self (by omega)] at h2
      obtain ⟨a, b⟩ := q
      simp at h1 h2
      subst h1; subst h2
      exact List.mem_cons_self
    · rw [List.getElem?_set_ne hj] at h2
      refine List.mem_cons_of_mem _ (List.mem_filter.mpr ⟨(xe_mem _ 0 q).mpr ⟨j, h1, h2⟩, ?_⟩)
      have e1 : q.1 = j := by omega
      by_cases h3 : j + 1 = i
      · have := xlo_ok ho h2 h3
        simp [e1, this]; omega
      · simp [e1, h3]; omega
end
section
/-! RULES OF xV, an instruction each -/
section XR
variable {G : xG} {Y : xY} {Tb : xT} {o : xO} {pc pc' tgt : Nat} {xl : List (Option Value)} {st : List Value} {T : xT} {R : xR} {L : xL} {I : xI} {off : Int}
theorem xV_iconst {n : Int} {v : Int32} (hd : decode Y.2.1 pc = .ok (.iconst n, 1) ∧ pc + 1 = pc') (hv : Int32.ofInt n = v) (k : xV G Y Tb o pc' xl (.int v :: st) T R L I) : xV G Y Tb o pc xl (st) T R L I := by
  obtain ⟨hd, rfl⟩ := hd
  exact fun p l e Rm s m args below meth c H locs Q ls hF hRm hl hn hR hS hE => lv_iconst hF.1 hF.2.1 hd hv (k p l e Rm s m args below meth c H locs Q ls hF hRm hl hn hR hS hE)
theorem xV_bipush {n : Int} {v : Int32} (hd : decode Y.2.1 pc = .ok (.bipush n, 2) ∧ pc + 2 = pc') (hv : (Int8.ofInt n).toInt32 = v) (k : xV G Y Tb o pc' xl (.int v :: st) T R L I) : xV G Y Tb o pc xl (st) T R L I := by
  obtain ⟨hd, rfl⟩ := hd
  exact fun p l e Rm s m args below meth c H locs Q ls hF hRm hl hn hR hS hE => lv_bipush hF.1 hF.2.1 hd hv (k p l e Rm s m args below meth c H locs Q ls hF hRm hl hn hR hS hE)
theorem xV_sipush {n : Int} {v : Int32} (hd : decode Y.2.1 pc = .ok (.sipush n, 3) ∧ pc + 3 = pc') (hv : (Int16.ofInt n).toInt32 = v) (k : xV G Y Tb o pc' xl (.int v :: st) T R L I) : xV G Y Tb o pc xl (st) T R L I := by
  obtain ⟨hd, rfl⟩ := hd
  exact fun p l e Rm s m args below meth c H locs Q ls hF hRm hl hn hR hS hE => lv_sipush hF.1 hF.2.1 hd hv (k p l e Rm s m args below meth c H locs Q ls hF hRm hl hn hR hS hE)
theorem xV_lconst {n : Fin 2} {v : Int64} (hd : decode Y.2.1 pc = .ok (.lconst n, 1) ∧ pc + 1 = pc') (hv : Int64.ofNat (n : Nat) = v) (k : xV G Y Tb o pc' xl (.long v :: st) T R L I) : xV G Y Tb o pc xl (st) T R L I := by
  obtain ⟨hd, rfl⟩ := hd
  exact fun p l e Rm s m args below meth c H locs Q ls hF hRm hl hn hR hS hE => lv_lconst hF.1 hF.2.1 hd hv (k p l e Rm s m args below meth c H locs Q ls hF hRm hl hn hR hS hE)
theorem xV_iload_n {k0 : Fin 4} {x : Int32} (hd : decode Y.2.1 pc = .ok (.iload_n k0, 1) ∧ pc + 1 = pc') (hx : xl[(k0 : Nat)]? = some (some (.int x))) (k : xV G Y Tb o pc' xl (.int x :: st) T R L I) : xV G Y Tb o pc xl (st) T R L I := by
  obtain ⟨hd, rfl⟩ := hd
  exact fun p l e Rm s m args below meth c H locs Q ls hF hRm hl hn hR hS hE => lv_iload_n hF.1 hF.2.1 hd rfl (xl_at hl hx) (k p l e Rm s m args below meth c H locs Q ls hF hRm hl hn hR hS hE)
theorem xV_iload {i : Nat} {x : Int32} (hd : decode Y.2.1 pc = .ok (.iload i, 2) ∧ pc + 2 = pc') (hx : xl[i]? = some (some (.int x))) (k : xV G Y Tb o pc' xl (.int x :: st) T R L I) : xV G Y Tb o pc xl (st) T R L I := by
  obtain ⟨hd, rfl⟩ := hd
  exact fun p l e Rm s m args below meth c H locs Q ls hF hRm hl hn hR hS hE => lv_iload hF.1 hF.2.1 hd (xl_at hl hx) (k p l e Rm s m args below meth c H locs Q ls hF hRm hl hn hR hS hE)
theorem xV_lload_n {k0 : Fin 4} {x : Int64} (hd : decode Y.2.1 pc = .ok (.lload_n k0, 1) ∧ pc + 1 = pc') (hx : xl[(k0 : Nat)]? = some (some (.long x))) (k : xV G Y Tb o pc' xl (.long x :: st) T R L I) : xV G Y Tb o pc xl (st) T R L I := by
  obtain ⟨hd, rfl⟩ := hd
  exact fun p l e Rm s m args below meth c H locs Q ls hF hRm hl hn hR hS hE => lv_lload_n hF.1 hF.2.1 hd rfl (xl_at hl hx) (k p l e Rm s m args below meth c H locs Q ls hF hRm hl hn hR hS hE)
theorem xV_lload {i : Nat} {x : Int64} (hd : decode Y.2.1 pc = .ok (.lload i, 2) ∧ pc + 2 = pc') (hx : xl[i]? = some (some (.long x))) (k : xV G Y Tb o pc' xl (.long x :: st) T R L I) : xV G Y Tb o pc xl (st) T R L I := by
  obtain ⟨hd, rfl⟩ := hd
  exact fun p l e Rm s m args below meth c H locs Q ls hF hRm hl hn hR hS hE => lv_lload hF.1 hF.2.1 hd (xl_at hl hx) (k p l e Rm s m args below meth c H locs Q ls hF hRm hl hn hR hS hE)
theorem xV_aload_n {k0 : Fin 4} {x : Nat} (hd : decode Y.2.1 pc = .ok (.aload_n k0, 1) ∧ pc + 1 = pc') (hx : xl[(k0 : Nat)]? = some (some (.ref x))) (k : xV G Y Tb o pc' xl (.ref x :: st) T R L I) : xV G Y Tb o pc xl (st) T R L I := by
  obtain ⟨hd, rfl⟩ := hd
  exact fun p l e Rm s m args below meth c H locs Q ls hF hRm hl hn hR hS hE => lv_aload_n hF.1 hF.2.1 hd rfl (xl_at hl hx) (k p l e Rm s m args below meth c H locs Q ls hF hRm hl hn hR hS hE)
theorem xV_iadd {x y : Int32} (hd : decode Y.2.1 pc = .ok (.iadd, 1) ∧ pc + 1 = pc')  (k : xV G Y Tb o pc' xl (.int (x + y) :: st) T R L I) : xV G Y Tb o pc xl (.int y :: .int x :: st) T R L I := by
  obtain ⟨hd, rfl⟩ := hd
  exact fun p l e Rm s m args below meth c H locs Q ls hF hRm hl hn hR hS hE => lv_iadd hF.1 hF.2.1 hd (k p l e Rm s m args below meth c H locs Q ls hF hRm hl hn hR hS hE)
theorem xV_isub {x y : Int32} (hd : decode Y.2.1 pc = .ok (.isub, 1) ∧ pc + 1 = pc')  (k : xV G Y Tb o pc' xl (.int (x - y) :: st) T R L I) : xV G Y Tb o pc xl (.int y :: .int x :: st) T R L I := by
  obtain ⟨hd, rfl⟩ := hd
  exact fun p l e Rm s m args below meth c H locs Q ls hF hRm hl hn hR hS hE => lv_isub hF.1 hF.2.1 hd (k p l e Rm s m args below meth c H locs Q ls hF hRm hl hn hR hS hE)
theorem xV_imul {x y : Int32} (hd : decode Y.2.1 pc = .ok (.imul, 1) ∧ pc + 1 = pc')  (k : xV G Y Tb o pc' xl (.int (x * y) :: st) T R L I) : xV G Y Tb o pc xl (.int y :: .int x :: st) T R L I := by
  obtain ⟨hd, rfl⟩ := hd
  exact fun p l e Rm s m args below meth c H locs Q ls hF hRm hl hn hR hS hE => lv_imul hF.1 hF.2.1 hd (k p l e Rm s m args below meth c H locs Q ls hF hRm hl hn hR hS hE)
theorem xV_iand {x y : Int32} (hd : decode Y.2.1 pc = .ok (.iand, 1) ∧ pc + 1 = pc')  (k : xV G Y Tb o pc' xl (.int (x &&& y) :: st) T R L I) : xV G Y Tb o pc xl (.int y :: .int x :: st) T R L I := by
  obtain ⟨hd, rfl⟩ := hd
  exact fun p l e Rm s m args below meth c H locs Q ls hF hRm hl hn hR hS hE => lv_iand hF.1 hF.2.1 hd (k p l e Rm s m args below meth c H locs Q ls hF hRm hl hn hR hS hE)
theorem xV_ior {x y : Int32} (hd : decode Y.2.1 pc = .ok (.ior, 1) ∧ pc + 1 = pc')  (k : xV G Y Tb o pc' xl (.int (x ||| y) :: st) T R L I) : xV G Y Tb o pc xl (.int y :: .int x :: st) T R L I := by
  obtain ⟨hd, rfl⟩ := hd
  exact fun p l e Rm s m args below meth c H locs Q ls hF hRm hl hn hR hS hE => lv_ior hF.1 hF.2.1 hd (k p l e Rm s m args below meth c H locs Q ls hF hRm hl hn hR hS hE)
theorem xV_ixor {x y : Int32} (hd : decode Y.2.1 pc = .ok (.ixor, 1) ∧ pc + 1 = pc')  (k : xV G Y Tb o pc' xl (.int (x ^^^ y) :: st) T R L I) : xV G Y Tb o pc xl (.int y :: .int x :: st) T R L I := by
  obtain ⟨hd, rfl⟩ := hd
  exact fun p l e Rm s m args below meth c H locs Q ls hF hRm hl hn hR hS hE => lv_ixor hF.1 hF.2.1 hd (k p l e Rm s m args below meth c H locs Q ls hF hRm hl hn hR hS hE)
theorem xV_ishl {x y : Int32} (hd : decode Y.2.1 pc = .ok (.ishl, 1) ∧ pc + 1 = pc')  (k : xV G Y Tb o pc' xl (.int (x <<< (y &&& 31)) :: st) T R L I) : xV G Y Tb o pc xl (.int y :: .int x :: st) T R L I := by
  obtain ⟨hd, rfl⟩ := hd
  exact fun p l e Rm s m args below meth c H locs Q ls hF hRm hl hn hR hS hE => lv_ishl hF.1 hF.2.1 hd (k p l e Rm s m args below meth c H locs Q ls hF hRm hl hn hR hS hE)
theorem xV_ishr {x y : Int32} (hd : decode Y.2.1 pc = .ok (.ishr, 1) ∧ pc + 1 = pc')  (k : xV G Y Tb o pc' xl (.int (x >>> (y &&& 31)) :: st) T R L I) : xV G Y Tb o pc xl (.int y :: .int x :: st) T R L I := by
  obtain ⟨hd, rfl⟩ := hd
  exact fun p l e Rm s m args below meth c H locs Q ls hF hRm hl hn hR hS hE => lv_ishr hF.1 hF.2.1 hd (k p l e Rm s m args below meth c H locs Q ls hF hRm hl hn hR hS hE)
theorem xV_idiv {x y : Int32} (hd : decode Y.2.1 pc = .ok (.idiv, 1) ∧ pc + 1 = pc') (h0 : ¬ y = 0) (k : xV G Y Tb o pc' xl (.int (x / y) :: st) T R L I) : xV G Y Tb o pc xl (.int y :: .int x :: st) T R L I := by
  obtain ⟨hd, rfl⟩ := hd
  exact fun p l e Rm s m args below meth c H locs Q ls hF hRm hl hn hR hS hE => lv_idiv hF.1 hF.2.1 hd h0 (k p l e Rm s m args below meth c H locs Q ls hF hRm hl hn hR hS hE)
theorem xV_irem {x y : Int32} (hd : decode Y.2.1 pc = .ok (.irem, 1) ∧ pc + 1 = pc') (h0 : ¬ y = 0) (k : xV G Y Tb o pc' xl (.int (x - x / y * y) :: st) T R L I) : xV G Y Tb o pc xl (.int y :: .int x :: st) T R L I := by
  obtain ⟨hd, rfl⟩ := hd
  exact fun p l e Rm s m args below meth c H locs Q ls hF hRm hl hn hR hS hE => lv_irem hF.1 hF.2.1 hd h0 (k p l e Rm s m args below meth c H locs Q ls hF hRm hl hn hR hS hE)
theorem xV_iushr {x y : Int32} (hd : decode Y.2.1 pc = .ok (.iushr, 1) ∧ pc + 1 = pc')  (k : xV G Y Tb o pc' xl (.int ((x.toUInt32 >>> (y.toUInt32 &&& Int32.toUInt32 31)).toInt32) :: st) T R L I) : xV G Y Tb o pc xl (.int y :: .int x :: st) T R L I := by
  obtain ⟨hd, rfl⟩ := hd
  exact fun p l e Rm s m args below meth c H locs Q ls hF hRm hl hn hR hS hE => lv_iushr hF.1 hF.2.1 hd rfl (k p l e Rm s m args below meth c H locs Q ls hF hRm hl hn hR hS hE)
theorem xV_ladd {x y : Int64} (hd : decode Y.2.1 pc = .ok (.ladd, 1) ∧ pc + 1 = pc')  (k : xV G Y Tb o pc' xl (.long (x + y) :: st) T R L I) : xV G Y Tb o pc xl (.long y :: .long x :: st) T R L I := by
  obtain ⟨hd, rfl⟩ := hd
  exact fun p l e Rm s m args below meth c H locs Q ls hF hRm hl hn hR hS hE => lv_ladd hF.1 hF.2.1 hd (k p l e Rm s m args below meth c H locs Q ls hF hRm hl hn hR hS hE)
theorem xV_lmul {x y : Int64} (hd : decode Y.2.1 pc = .ok (.lmul, 1) ∧ pc + 1 = pc')  (k : xV G Y Tb o pc' xl (.long (x * y) :: st) T R L I) : xV G Y Tb o pc xl (.long y :: .long x :: st) T R L I := by
  obtain ⟨hd, rfl⟩ := hd
  exact fun p l e Rm s m args below meth c H locs Q ls hF hRm hl hn hR hS hE => lv_lmul hF.1 hF.2.1 hd (k p l e Rm s m args below meth c H locs Q ls hF hRm hl hn hR hS hE)
theorem xV_land {x y : Int64} (hd : decode Y.2.1 pc = .ok (.land, 1) ∧ pc + 1 = pc')  (k : xV G Y Tb o pc' xl (.long (x &&& y) :: st) T R L I) : xV G Y Tb o pc xl (.long y :: .long x :: st) T R L I := by
  obtain ⟨hd, rfl⟩ := hd
  exact fun p l e Rm s m args below meth c H locs Q ls hF hRm hl hn hR hS hE => lv_land hF.1 hF.2.1 hd (k p l e Rm s m args below meth c H locs Q ls hF hRm hl hn hR hS hE)
theorem xV_lor {x y : Int64} (hd : decode Y.2.1 pc = .ok (.lor, 1) ∧ pc + 1 = pc')  (k : xV G Y Tb o pc' xl (.long (x ||| y) :: st) T R L I) : xV G Y Tb o pc xl (.long y :: .long x :: st) T R L I := by
  obtain ⟨hd, rfl⟩ := hd
  exact fun p l e Rm s m args below meth c H locs Q ls hF hRm hl hn hR hS hE => lv_lor hF.1 hF.2.1 hd (k p l e Rm s m args below meth c H locs Q ls hF hRm hl hn hR hS hE)
theorem xV_lrem {x y : Int64} (hd : decode Y.2.1 pc = .ok (.lrem, 1) ∧ pc + 1 = pc') (h0 : ¬ y = 0) (k : xV G Y Tb o pc' xl (.long (x - x / y * y) :: st) T R L I) : xV G Y Tb o pc xl (.long y :: .long x :: st) T R L I := by
  obtain ⟨hd, rfl⟩ := hd
  exact fun p l e Rm s m args below meth c H locs Q ls hF hRm hl hn hR hS hE => lv_lrem hF.1 hF.2.1 hd h0 (k p l e Rm s m args below meth c H locs Q ls hF hRm hl hn hR hS hE)
theorem xV_lushr {x : Int64} {y : Int32} (hd : decode Y.2.1 pc = .ok (.lushr, 1) ∧ pc + 1 = pc')  (k : xV G Y Tb o pc' xl (.long ((x.toUInt64 >>> (y.toInt64.toUInt64 &&& Int64.toUInt64 63)).toInt64) :: st) T R L I) : xV G Y Tb o pc xl (.int y :: .long x :: st) T R L I := by
  obtain ⟨hd, rfl⟩ := hd
  exact fun p l e Rm s m args below meth c H locs Q ls hF hRm hl hn hR hS hE => lv_lushr hF.1 hF.2.1 hd rfl (k p l e Rm s m args below meth c H locs Q ls hF hRm hl hn hR hS hE)
theorem xV_lshl {x : Int64} {y : Int32} (hd : decode Y.2.1 pc = .ok (.lshl, 1) ∧ pc + 1 = pc')  (k : xV G Y Tb o pc' xl (.long (x <<< (y.toInt64 &&& 63)) :: st) T R L I) : xV G Y Tb o pc xl (.int y :: .long x :: st) T R L I := by
  obtain ⟨hd, rfl⟩ := hd
  exact fun p l e Rm s m args below meth c H locs Q ls hF hRm hl hn hR hS hE => lv_lshl hF.1 hF.2.1 hd rfl (k p l e Rm s m args below meth c H locs Q ls hF hRm hl hn hR hS hE)
theorem xV_lshr {x : Int64} {y : Int32} (hd : decode Y.2.1 pc = .ok (.lshr, 1) ∧ pc + 1 = pc')  (k : xV G Y Tb o pc' xl (.long (x >>> (y.toInt64 &&& 63)) :: st) T R L I) : xV G Y Tb o pc xl (.int y :: .long x :: st) T R L I := by
  obtain ⟨hd, rfl⟩ := hd
  exact fun p l e Rm s m args below meth c H locs Q ls hF hRm hl hn hR hS hE => lv_lshr hF.1 hF.2.1 hd rfl (k p l e Rm s m args below meth c H locs Q ls hF hRm hl hn hR hS hE)
theorem xV_lcmp {x y : Int64} (hd : decode Y.2.1 pc = .ok (.lcmp, 1) ∧ pc + 1 = pc')  (k : xV G Y Tb o pc' xl (.int (lg_cmp x y) :: st) T R L I) : xV G Y Tb o pc xl (.long y :: .long x :: st) T R L I := by
  obtain ⟨hd, rfl⟩ := hd
  exact fun p l e Rm s m args below meth c H locs Q ls hF hRm hl hn hR hS hE => W.lcmp hF.1 hF.2.1 hd (k p l e Rm s m args below meth c H locs Q ls hF hRm hl hn hR hS hE)
theorem xV_i2l {x : Int32} (hd : decode Y.2.1 pc = .ok (.i2l, 1) ∧ pc + 1 = pc')  (k : xV G Y Tb o pc' xl (.long x.toInt64 :: st) T R L I) : xV G Y Tb o pc xl (.int x :: st) T R L I := by
  obtain ⟨hd, rfl⟩ := hd
  exact fun p l e Rm s m args below meth c H locs Q ls hF hRm hl hn hR hS hE => lv_i2l hF.1 hF.2.1 hd rfl (k p l e Rm s m args below meth c H locs Q ls hF hRm hl hn hR hS hE)
theorem xV_l2i {x : Int64} (hd : decode Y.2.1 pc = .ok (.l2i, 1) ∧ pc + 1 = pc')  (k : xV G Y Tb o pc' xl (.int x.toInt32 :: st) T R L I) : xV G Y Tb o pc xl (.long x :: st) T R L I := by
  obtain ⟨hd, rfl⟩ := hd
  exact fun p l e Rm s m args below meth c H locs Q ls hF hRm hl hn hR hS hE => lv_l2i hF.1 hF.2.1 hd rfl (k p l e Rm s m args below meth c H locs Q ls hF hRm hl hn hR hS hE)
theorem xV_dup {va : Value} (hd : decode Y.2.1 pc = .ok (.dup, 1) ∧ pc + 1 = pc') (hc : va.category = 1) (k : xV G Y Tb o pc' xl (va :: va :: st) T R L I) : xV G Y Tb o pc xl (va :: st) T R L I := by
  obtain ⟨hd, rfl⟩ := hd
  exact fun p l e Rm s m args below meth c H locs Q ls hF hRm hl hn hR hS hE => lv_dup hF.1 hF.2.1 hd hc (k p l e Rm s m args below meth c H locs Q ls hF hRm hl hn hR hS hE)
theorem xV_pop {va : Value} (hd : decode Y.2.1 pc = .ok (.pop, 1) ∧ pc + 1 = pc') (hc : va.category = 1) (k : xV G Y Tb o pc' xl (st) T R L I) : xV G Y Tb o pc xl (va :: st) T R L I := by
  obtain ⟨hd, rfl⟩ := hd
  exact fun p l e Rm s m args below meth c H locs Q ls hF hRm hl hn hR hS hE => lv_pop hF.1 hF.2.1 hd hc (k p l e Rm s m args below meth c H locs Q ls hF hRm hl hn hR hS hE)
theorem xV_dup2 {va vb : Value} (hd : decode Y.2.1 pc = .ok (.dup2, 1) ∧ pc + 1 = pc') (hc : va.category = 1) (hc2 : vb.category = 1) (k : xV G Y Tb o pc' xl (va :: vb :: va :: vb :: st) T R L I) : xV G Y Tb o pc xl (va :: vb :: st) T R L I := by
  obtain ⟨hd, rfl⟩ := hd
  exact fun p l e Rm s m args below meth c H locs Q ls hF hRm hl hn hR hS hE => lv_dup2_11 hF.1 hF.2.1 hd hc hc2 (k p l e Rm s m args below meth c H locs Q ls hF hRm hl hn hR hS hE)
theorem xV_istore_n {k0 : Fin 4} {x : Int32} (hd : decode Y.2.1 pc = .ok (.istore_n k0, 1) ∧ pc + 1 = pc') (hi : (k0 : Nat) < xl.length) (ho : xlo xl (k0 : Nat) = true) (k : xV G Y Tb o pc' ((xl.set (k0 : Nat) (some (.int x)))) st T R L I) : xV G Y Tb o pc xl (.int x :: st) T R L I := by
  obtain ⟨hd, rfl⟩ := hd
  exact fun p l e Rm s m args below meth c H locs Q ls hF hRm hl hn hR hS hE => lv_istore_n hF.1 hF.2.1 hd rfl hl (hn ▸ hi) rfl (fun ls hl => k p l e Rm s m args below meth c H locs Q ls hF hRm (xl_set1 hi ho hl) (by simpa using hn) hR hS hE)
theorem xV_istore {i : Nat} {x : Int32} (hd : decode Y.2.1 pc = .ok (.istore i, 2) ∧ pc + 2 = pc') (hi : i < xl.length) (ho : xlo xl i = true) (k : xV G Y Tb o pc' ((xl.set i (some (.int x)))) st T R L I) : xV G Y Tb o pc xl (.int x :: st) T R L I := by
  obtain ⟨hd, rfl⟩ := hd
  exact fun p l e Rm s m args below meth c H locs Q ls hF hRm hl hn hR hS hE => lv_istore hF.1 hF.2.1 hd hl (hn ▸ hi) rfl (fun ls hl => k p l e Rm s m args below meth c H locs Q ls hF hRm (xl_set1 hi ho hl) (by simpa using hn) hR hS hE)
theorem xV_astore_n {k0 : Fin 4} {x : Nat} (hd : decode Y.2.1 pc = .ok (.astore_n k0, 1) ∧ pc + 1 = pc') (hi : (k0 : Nat) < xl.length) (ho : xlo xl (k0 : Nat) = true) (k : xV G Y Tb o pc' ((xl.set (k0 : Nat) (some (.ref x)))) st T R L I) : xV G Y Tb o pc xl (.ref x :: st) T R L I := by
  obtain ⟨hd, rfl⟩ := hd
  exact fun p l e Rm s m args below meth c H locs Q ls hF hRm hl hn hR hS hE => lv_astore_n hF.1 hF.2.1 hd rfl hl (hn ▸ hi) rfl (fun ls hl => k p l e Rm s m args below meth c H locs Q ls hF hRm (xl_set1 hi ho hl) (by simpa using hn) hR hS hE)
theorem xV_lstore_n {k0 : Fin 4} {x : Int64} (hd : decode Y.2.1 pc = .ok (.lstore_n k0, 1) ∧ pc + 1 = pc') (hi : (k0 : Nat) + 1 < xl.length) (ho : xlo xl (k0 : Nat) = true) (k : xV G Y Tb o pc' ((xl.set (k0 : Nat) (some (.long x))).set ((k0 : Nat) + 1) none) st T R L I) : xV G Y Tb o pc xl (.long x :: st) T R L I := by
  obtain ⟨hd, rfl⟩ := hd
  exact fun p l e Rm s m args below meth c H locs Q ls hF hRm hl hn hR hS hE => lv_lstore_n hF.1 hF.2.1 hd rfl hl (hn ▸ hi) rfl (fun ls hl => k p l e Rm s m args below meth c H locs Q ls hF hRm (xl_set2 hi ho hl) (by simpa using hn) hR hS hE)
theorem xe_idx {xl : List (Option Value)} {i : Nat} {v : Value} (h : xl[i]? = some (some v)) : ∃ k : Nat, (xe 0 xl)[k]? = some (i, v) := List.getElem?_of_mem ((xe_mem xl 0 (i, v)).mpr ⟨i, by simp, h⟩)
theorem xV_iinc {i : Nat} {n : Int} {x v : Int32} (hd : decode Y.2.1 pc = .ok (.iinc i n, 3) ∧ pc + 3 = pc') (hx : xl[i]? = some (some (.int x))) (hv : x + Int32.ofInt n = v) (ho : xlo xl i = true) (k : xV G Y Tb o pc' (xl.set i (some (.int v))) st T R L I) : xV G Y Tb o pc xl st T R L I := by
  obtain ⟨hd, rfl⟩ := hd
  obtain ⟨q, hq⟩ := xe_idx hx
  have hi : i < xl.length := (List.getElem?_eq_some_iff.mp hx).1
  exact fun p l e Rm s m args below meth c H locs Q ls hF hRm hl hn hR hS hE => lv_iinc hF.1 hF.2.1 hd hl hq hv (hn ▸ hi) rfl (fun ls hl => k p l e Rm s m args below meth c H locs Q ls hF hRm (xl_set1 hi ho hl) (by simpa using hn) hR hS hE)
theorem xV_if_eq {x : Int32} (hd : decode Y.2.1 pc = .ok (.ifCond .eq off, 3) ∧ pc + 3 = pc' ∧ (pc : Int) + off = (tgt : Int)) (kt : x = 0 → xV G Y Tb o tgt xl st T R L I) (kf : ¬ x = 0 → xV G Y Tb o pc' xl st T R L I) : xV G Y Tb o pc xl (.int x :: st) T R L I := by
  obtain ⟨hd, rfl, ht⟩ := hd
  exact fun p l e Rm s m args below meth c H locs Q ls hF hRm hl hn hR hS hE => lv_if_eq hF.1 hF.2.1 hd ht (fun h => kt h p l e Rm s m args below meth c H locs Q ls hF hRm hl hn hR hS hE) (fun h => kf h p l e Rm s m args below meth c H locs Q ls hF hRm hl hn hR hS hE)
theorem xV_icmp_eq {x y : Int32} (hd : decode Y.2.1 pc = .ok (.if_icmp .eq off, 3) ∧ pc + 3 = pc' ∧ (pc : Int) + off = (tgt : Int)) (kt : x = y → xV G Y Tb o tgt xl st T R L I) (kf : ¬ x = y → xV G Y Tb o pc' xl st T R L I) : xV G Y Tb o pc xl (.int y :: .int x :: st) T R L I := by
  obtain ⟨hd, rfl, ht⟩ := hd
  exact fun p l e Rm s m args below meth c H locs Q ls hF hRm hl hn hR hS hE => lv_icmp_eq hF.1 hF.2.1 hd ht (fun h => kt h p l e Rm s m args below meth c H locs Q ls hF hRm hl hn hR hS hE) (fun h => kf h p l e Rm s m args below meth c H locs Q ls hF hRm hl hn hR hS hE)
theorem xV_if_ne {x : Int32} (hd : decode Y.2.1 pc = .ok (.ifCond .ne off, 3) ∧ pc + 3 = pc' ∧ (pc : Int) + off = (tgt : Int)) (kt : ¬ x = 0 → xV G Y Tb o tgt xl st T R L I) (kf : x = 0 → xV G Y Tb o pc' xl st T R L I) : xV G Y Tb o pc xl (.int x :: st) T R L I := by
  obtain ⟨hd, rfl, ht⟩ := hd
  exact fun p l e Rm s m args below meth c H locs Q ls hF hRm hl hn hR hS hE => lv_if_ne hF.1 hF.2.1 hd ht (fun h => kt h p l e Rm s m args below meth c H locs Q ls hF hRm hl hn hR hS hE) (fun h => kf h p l e Rm s m args below meth c H locs Q ls hF hRm hl hn hR hS hE)
theorem xV_icmp_ne {x y : Int32} (hd : decode Y.2.1 pc = .ok (.if_icmp .ne off, 3) ∧ pc + 3 = pc' ∧ (pc : Int) + off = (tgt : Int)) (kt : ¬ x = y → xV G Y Tb o tgt xl st T R L I) (kf : x = y → xV G Y Tb o pc' xl st T R L I) : xV G Y Tb o pc xl (.int y :: .int x :: st) T R L I := by
  obtain ⟨hd, rfl, ht⟩ := hd
  exact fun p l e Rm s m args below meth c H locs Q ls hF hRm hl hn hR hS hE => lv_icmp_ne hF.1 hF.2.1 hd ht (fun h => kt h p l e Rm s m args below meth c H locs Q ls hF hRm hl hn hR hS hE) (fun h => kf h p l e Rm s m args below meth c H locs Q ls hF hRm hl hn hR hS hE)
theorem xV_if_lt {x : Int32} (hd : decode Y.2.1 pc = .ok (.ifCond .lt off, 3) ∧ pc + 3 = pc' ∧ (pc : Int) + off = (tgt : Int)) (kt : x < 0 → xV G Y Tb o tgt xl st T R L I) (kf : ¬ x < 0 → xV G Y Tb o pc' xl st T R L I) : xV G Y Tb o pc xl (.int x :: st) T R L I := by
  obtain ⟨hd, rfl, ht⟩ := hd
  exact fun p l e Rm s m args below meth c H locs Q ls hF hRm hl hn hR hS hE => lv_if_lt hF.1 hF.2.1 hd ht (fun h => kt h p l e Rm s m args below meth c H locs Q ls hF hRm hl hn hR hS hE) (fun h => kf h p l e Rm s m args below meth c H locs Q ls hF hRm hl hn hR hS hE)
theorem xV_icmp_lt {x y : Int32} (hd : decode Y.2.1 pc = .ok (.if_icmp .lt off, 3) ∧ pc + 3 = pc' ∧ (pc : Int) + off = (tgt : Int)) (kt : x < y → xV G Y Tb o tgt xl st T R L I) (kf : ¬ x < y → xV G Y Tb o pc' xl st T R L I) : xV G Y Tb o pc xl (.int y :: .int x :: st) T R L I := by
  obtain ⟨hd, rfl, ht⟩ := hd
  exact fun p l e Rm s m args below meth c H locs Q ls hF hRm hl hn hR hS hE => lv_icmp_lt hF.1 hF.2.1 hd ht (fun h => kt h p l e Rm s m args below meth c H locs Q ls hF hRm hl hn hR hS hE) (fun h => kf h p l e Rm s m args below meth c H locs Q ls hF hRm hl hn hR hS hE)
theorem xV_if_ge {x : Int32} (hd : decode Y.2.1 pc = .ok (.ifCond .ge off, 3) ∧ pc + 3 = pc' ∧ (pc : Int) + off = (tgt : Int)) (kt : 0 ≤ x → xV G Y Tb o tgt xl st T R L I) (kf : ¬ 0 ≤ x → xV G Y Tb o pc' xl st T R L I) : xV G Y Tb o pc xl (.int x :: st) T R L I := by
  obtain ⟨hd, rfl, ht⟩ := hd
  exact fun p l e Rm s m args below meth c H locs Q ls hF hRm hl hn hR hS hE => lv_if_ge hF.1 hF.2.1 hd ht (fun h => kt h p l e Rm s m args below meth c H locs Q ls hF hRm hl hn hR hS hE) (fun h => kf h p l e Rm s m args below meth c H locs Q ls hF hRm hl hn hR hS hE)
theorem xV_icmp_ge {x y : Int32} (hd : decode Y.2.1 pc = .ok (.if_icmp .ge off, 3) ∧ pc + 3 = pc' ∧ (pc : Int) + off = (tgt : Int)) (kt : y ≤ x → xV G Y Tb o tgt xl st T R L I) (kf : ¬ y ≤ x → xV G Y Tb o pc' xl st T R L I) : xV G Y Tb o pc xl (.int y :: .int x :: st) T R L I := by
  obtain ⟨hd, rfl, ht⟩ := hd
  exact fun p l e Rm s m args below meth c H locs Q ls hF hRm hl hn hR hS hE => lv_icmp_ge hF.1 hF.2.1 hd ht (fun h => kt h p l e Rm s m args below meth c H locs Q ls hF hRm hl hn hR hS hE) (fun h => kf h p l e Rm s m args below meth c H locs Q ls hF hRm hl hn hR hS hE)
theorem xV_if_gt {x : Int32} (hd : decode Y.2.1 pc = .ok (.ifCond .gt off, 3) ∧ pc + 3 = pc' ∧ (pc : Int) + off = (tgt : Int)) (kt : 0 < x → xV G Y Tb o tgt xl st T R L I) (kf : ¬ 0 < x → xV G Y Tb o pc' xl st T R L I) : xV G Y Tb o pc xl (.int x :: st) T R L I := by
  obtain ⟨hd, rfl, ht⟩ := hd
  exact fun p l e Rm s m args below meth c H locs Q ls hF hRm hl hn hR hS hE => lv_if_gt hF.1 hF.2.1 hd ht (fun h => kt h p l e Rm s m args below meth c H locs Q ls hF hRm hl hn hR hS hE) (fun h => kf h p l e Rm s m args below meth c H locs Q ls hF hRm hl hn hR hS hE)
theorem xV_icmp_gt {x y : Int32} (hd : decode Y.2.1 pc = .ok (.if_icmp .gt off, 3) ∧ pc + 3 = pc' ∧ (pc : Int) + off = (tgt : Int)) (kt : y < x → xV G Y Tb o tgt xl st T R L I) (kf : ¬ y < x → xV G Y Tb o pc' xl st T R L I) : xV G Y Tb o pc xl (.int y :: .int x :: st) T R L I := by
  obtain ⟨hd, rfl, ht⟩ := hd
  exact fun p l e Rm s m args below meth c H locs Q ls hF hRm hl hn hR hS hE => lv_icmp_gt hF.1 hF.2.1 hd ht (fun h => kt h p l e Rm s m args below meth c H locs Q ls hF hRm hl hn hR hS hE) (fun h => kf h p l e Rm s m args below meth c H locs Q ls hF hRm hl hn hR hS hE)
theorem xV_if_le {x : Int32} (hd : decode Y.2.1 pc = .ok (.ifCond .le off, 3) ∧ pc + 3 = pc' ∧ (pc : Int) + off = (tgt : Int)) (kt : x ≤ 0 → xV G Y Tb o tgt xl st T R L I) (kf : ¬ x ≤ 0 → xV G Y Tb o pc' xl st T R L I) : xV G Y Tb o pc xl (.int x :: st) T R L I := by
  obtain ⟨hd, rfl, ht⟩ := hd
  exact fun p l e Rm s m args below meth c H locs Q ls hF hRm hl hn hR hS hE => lv_if_le hF.1 hF.2.1 hd ht (fun h => kt h p l e Rm s m args below meth c H locs Q ls hF hRm hl hn hR hS hE) (fun h => kf h p l e Rm s m args below meth c H locs Q ls hF hRm hl hn hR hS hE)
theorem xV_icmp_le {x y : Int32} (hd : decode Y.2.1 pc = .ok (.if_icmp .le off, 3) ∧ pc + 3 = pc' ∧ (pc : Int) + off = (tgt : Int)) (kt : x ≤ y → xV G Y Tb o tgt xl st T R L I) (kf : ¬ x ≤ y → xV G Y Tb o pc' xl st T R L I) : xV G Y Tb o pc xl (.int y :: .int x :: st) T R L I := by
  obtain ⟨hd, rfl, ht⟩ := hd
  exact fun p l e Rm s m args below meth c H locs Q ls hF hRm hl hn hR hS hE => lv_icmp_le hF.1 hF.2.1 hd ht (fun h => kt h p l e Rm s m args below meth c H locs Q ls hF hRm hl hn hR hS hE) (fun h => kf h p l e Rm s m args below meth c H locs Q ls hF hRm hl hn hR hS hE)
theorem xV_goto (hd : decode Y.2.1 pc = .ok (.goto off, 3) ∧ pc + 3 = pc' ∧ (pc : Int) + off = (tgt : Int)) (k : xV G Y Tb o tgt xl st T R L I) : xV G Y Tb o pc xl st T R L I := by
  obtain ⟨hd, rfl, ht⟩ := hd
  exact fun p l e Rm s m args below meth c H locs Q ls hF hRm hl hn hR hS hE => lv_goto hF.1 hF.2.1 hd ht (k p l e Rm s m args below meth c H locs Q ls hF hRm hl hn hR hS hE)
theorem xV_ifnonnull {a : Nat} (hd : decode Y.2.1 pc = .ok (.ifnonnull off, 3) ∧ pc + 3 = pc' ∧ (pc : Int) + off = (tgt : Int)) (k : xV G Y Tb o tgt xl st T R L I) : xV G Y Tb o pc xl (.ref a :: st) T R L I := by
  obtain ⟨hd, rfl, ht⟩ := hd
  exact fun p l e Rm s m args below meth c H locs Q ls hF hRm hl hn hR hS hE => lv_ifnonnull hF.1 hF.2.1 hd ht (k p l e Rm s m args below meth c H locs Q ls hF hRm hl hn hR hS hE)
theorem xV_ifnull {a : Nat} (hd : decode Y.2.1 pc = .ok (.ifnull off, 3) ∧ pc + 3 = pc' ∧ (pc : Int) + off = (tgt : Int)) (k : xV G Y Tb o pc' xl st T R L I) : xV G Y Tb o pc xl (.ref a :: st) T R L I := by
  obtain ⟨hd, rfl, ht⟩ := hd
  exact fun p l e Rm s m args below meth c H locs Q ls hF hRm hl hn hR hS hE => lv_ifnull hF.1 hF.2.1 hd (k p l e Rm s m args below meth c H locs Q ls hF hRm hl hn hR hS hE)
theorem xV_tswIn {dflt lo hi : Int} {offs : Array Int} {len : Nat} {x : Int32} (hd : decode Y.2.1 pc = .ok (.tableswitch dflt lo hi offs, len)) (h1 : ¬ x.toInt < lo) (h2 : ¬ hi < x.toInt) (ho : offs[(x.toInt - lo).toNat]? = some off) (ht : (pc : Int) + off = (tgt : Int)) (k : xV G Y Tb o tgt xl st T R L I) : xV G Y Tb o pc xl (.int x :: st) T R L I :=
  fun p l e Rm s m args below meth c H locs Q ls hF hRm hl hn hR hS hE => lv_tableIn hF.1 hF.2.1 hd h1 h2 ho ht (k p l e Rm s m args below meth c H locs Q ls hF hRm hl hn hR hS hE)
theorem xV_tswOut {dflt lo hi : Int} {offs : Array Int} {len : Nat} {x : Int32} (hd : decode Y.2.1 pc = .ok (.tableswitch dflt lo hi offs, len)) (h : x.toInt < lo ∨ hi < x.toInt) (ht : (pc : Int) + dflt = (tgt : Int)) (k : xV G Y Tb o tgt xl st T R L I) : xV G Y Tb o pc xl (.int x :: st) T R L I :=
  fun p l e Rm s m args below meth c H locs Q ls hF hRm hl hn hR hS hE => lv_tableOut hF.1 hF.2.1 hd h ht (k p l e Rm s m args below meth c H locs Q ls hF hRm hl hn hR hS hE)
theorem xV_ldc2 {idx : Nat} {v : Int64} (hd : decode Y.2.1 pc = .ok (.ldc2_w idx, 3) ∧ pc + 3 = pc') (hc : Cond.constantLong Y.1.cls idx v ∈ xW) (k : xV G Y Tb o pc' xl (.long v :: st) T R L I) : xV G Y Tb o pc xl st T R L I := by
  obtain ⟨hd, rfl⟩ := hd
  exact fun p l e Rm s m args below meth c H locs Q ls hF hRm hl hn hR hS hE => lv_ldc2 hF.1 hF.2.1 hF.2.2.2.1 (hF.2.2.2.2.1 _ hc) hd (k p l e Rm s m args below meth c H locs Q ls hF hRm hl hn hR hS hE)
theorem xV_ldcw {idx : Nat} {v : Int32} (hd : decode Y.2.1 pc = .ok (.ldc_w idx, 3) ∧ pc + 3 = pc') (hc : Cond.constant Y.1.cls idx v ∈ xW) (k : xV G Y Tb o pc' xl (.int v :: st) T R L I) : xV G Y Tb o pc xl st T R L I := by
  obtain ⟨hd, rfl⟩ := hd
  exact fun p l e Rm s m args below meth c H locs Q ls hF hRm hl hn hR hS hE => lv_ldcw hF.1 hF.2.1 hF.2.2.2.1 (hF.2.2.2.2.1 _ hc) hd (k p l e Rm s m args below meth c H locs Q ls hF hRm hl hn hR hS hE)
/-- fewer known locals -/
def xsub : List (Option Value) → List (Option Value) → Prop
  | [], [] => True
  | none :: a, _ :: b => xsub a b
  | some v :: a, w :: b => w = some v ∧ xsub a b
  | _, _ => False
theorem xsub_ok : ∀ (a b : List (Option Value)), xsub a b → a.length = b.length ∧ ∀ (i : Nat) (v : Value), a[i]? = some (some v) → b[i]? = some (some v) := by
  intro a
  induction a with
  | nil =>
    intro b h
    cases b with
    | nil => exact ⟨rfl, fun i v h => h⟩
    | cons _ _ => exact h.elim
  | cons x t ih =>
    intro b h
    cases b with
    | nil => cases x <;> exact h.elim
    | cons y u =>
      cases x with
      | none =>
        obtain ⟨h1, h2⟩ := ih u h
        refine ⟨by simp [h1], fun i v hi => ?_⟩
        cases i with
        | zero => simp at hi
        | succ i => simpa using h2 i v (by simpa using hi)
      | some w =>
        obtain ⟨e, h⟩ := h
        obtain ⟨h1, h2⟩ := ih u h
        refine ⟨by simp [h1], fun i v hi => ?_⟩
        cases i with
        | zero => simp at hi; subst hi; simp [e]
        | succ i => simpa using h2 i v (by simpa using hi)
theorem xV_sub {xl' : List (Option Value)} (h : xsub xl' xl) (k : xV G Y Tb o pc xl' st T R L I) : xV G Y Tb o pc xl st T R L I := by
  obtain ⟨h1, h2⟩ := xsub_ok _ _ h
  exact fun p l e Rm s m args below meth c H locs Q ls hF hRm hl hn hR hS hE => k p l e Rm s m args below meth c H locs Q ls hF hRm (xl_le hl (fun q hq => by obtain ⟨j, e1, e2⟩ := (xe_mem _ 0 q).mp hq; exact (xe_mem _ 0 q).mpr ⟨j, e1, h2 _ _ e2⟩)) (h1.trans hn) hR hS hE
-- ===== memory =====
def xFL (own : String) (idx ci k kd : Nat) : Prop := Cond.fieldLink own idx (xct ci k).1 (xct ci k).2.1 (xct ci k).2.2.1 ∈ xW ∧ ci < 4 ∧ k < xnf ci ∧ xfk ci k = kd
def xFP (own : String) (idx ci k kd : Nat) (fin : Bool) (ty : FieldType) : Prop := xFL own idx ci k kd ∧ (xct ci k).2.2.2 = fin ∧ xcy ci k = ty
theorem xin {ci : Nat} (h : ci < 4) : ∀ w ∈ u_ws (xcn ci) (xct ci) (xnf ci), w ∈ xW := by
  match ci, h with
  | 0, _ => exact xin0
  | 1, _ => exact xin1
  | 2, _ => exact xin2
  | 3, _ => exact xin3
theorem xfs_at {ci k : Nat} {r : Nat → Option Nat} {l : Nat → Int64} {i : Nat → Int32} (h : k < xnf ci) : ((List.range (xnf ci)).map (fun k => xfv ci k r l i))[k]? = some (xfv ci k r l i) := by simp [h]
theorem xhas {G : xG} {T : xT} {R : xR} {L : xL} {I : xI} {a ci : Nat} (hs : (xSh G T a).1 = ci) (h4 : ci < 4) : ∃ k : Nat, (va_pl (xads G T) (xE G T R L I))[k]? = some (a, .inr (ci, (List.range (xnf ci)).map (fun k => xfv ci k (R a) (L a) (I a)))) := by
  obtain ⟨q, hq⟩ := xpl_get (f := xE G T R L I) (xsh_in (G := G) (T := T) (a := a) (by rw [hs]; omega))
  exact ⟨q, by rw [hq]; unfold xE; rw [xmk_obj hs h4]⟩
theorem xhasA {G : xG} {T : xT} {R : xR} {L : xL} {I : xI} {a n : Nat} (hs : xSh G T a = (4, n)) : ∃ k : Nat, (va_pl (xads G T) (xE G T R L I))[k]? = some (a, .inl (G.2.1.1, n, .inl (I a))) := by
  obtain ⟨q, hq⟩ := xpl_get (f := xE G T R L I) (xsh_in (G := G) (T := T) (a := a) (by simp [hs]))
  exact ⟨q, by rw [hq]; unfold xE; rw [hs]; rfl⟩
theorem xhasZ {G : xG} {T : xT} {R : xR} {L : xL} {I : xI} {a n : Nat} (hs : xSh G T a = (5, n)) : ∃ k : Nat, (va_pl (xads G T) (xE G T R L I))[k]? = some (a, .inl (G.2.1.2.1, n, .inl (I a))) := by
  obtain ⟨q, hq⟩ := xpl_get (f := xE G T R L I) (xsh_in (G := G) (T := T) (a := a) (by simp [hs]))
  exact ⟨q, by rw [hq]; unfold xE; rw [hs]; rfl⟩
theorem xhasQ {G : xG} {T : xT} {R : xR} {L : xL} {I : xI} {a n : Nat} (hs : xSh G T a = (6, n)) : ∃ k : Nat, (va_pl (xads G T) (xE G T R L I))[k]? = some (a, .inl (G.2.1.2.2, n, .inr (.inr (.inr (.inr (R a)))))) := by
  obtain ⟨q, hq⟩ := xpl_get (f := xE G T R L I) (xsh_in (G := G) (T := T) (a := a) (by simp [hs]))
  exact ⟨q, by rw [hq]; unfold xE; rw [hs]; rfl⟩
def xst (I : xI) (a k : Nat) (x : Int32) : xI := va_up I a (upd (I a) k x)
def xsl (L : xL) (a k : Nat) (x : Int64) : xL := va_up L a (va_up (L a) k x)
def xsr (R : xR) (a k : Nat) (x : Nat) : xR := va_up R a (va_up (R a) k (some x))
theorem xV_getI {a ci k0 idx : Nat}  (hd : decode Y.2.1 pc = .ok (.getfield idx, 3) ∧ pc + 3 = pc') (hf : xFL Y.1.cls idx ci k0 0) (hs : (xSh G T a).1 = ci)  (k : xV G Y Tb o pc' xl (.int (I a k0) :: st) T R L I) : xV G Y Tb o pc xl (.ref a :: st) T R L I := by
  obtain ⟨hd, rfl⟩ := hd
  obtain ⟨hw, h4, hk, hkd⟩ := hf
  intro p l e Rm s m args below meth c H locs Q ls hF hRm hl hn hR hS hE
  obtain ⟨q0, hq⟩ := xhas (R := R) (L := L) (I := I) hs h4
  exact va_get hF.1 hF.2.1 hF.2.2.2.2.1 (xin h4) hF.2.2.2.1 hF.2.2.2.2.2.2.2.2.1 hR.2 q0 hq (xcl h4) k0 hk (hF.2.2.2.2.1 _ hw) (fun _ h => h) (by rw [xfs_at hk]; simp only [xfv, hkd]) hd (k p l e Rm s m args below meth c H locs Q ls hF hRm hl hn hR hS hE)
theorem xV_getL {a ci k0 idx : Nat}  (hd : decode Y.2.1 pc = .ok (.getfield idx, 3) ∧ pc + 3 = pc') (hf : xFL Y.1.cls idx ci k0 1) (hs : (xSh G T a).1 = ci)  (k : xV G Y Tb o pc' xl (.long (L a k0) :: st) T R L I) : xV G Y Tb o pc xl (.ref a :: st) T R L I := by
  obtain ⟨hd, rfl⟩ := hd
  obtain ⟨hw, h4, hk, hkd⟩ := hf
  intro p l e Rm s m args below meth c H locs Q ls hF hRm hl hn hR hS hE
  obtain ⟨q0, hq⟩ := xhas (R := R) (L := L) (I := I) hs h4
  exact va_get hF.1 hF.2.1 hF.2.2.2.2.1 (xin h4) hF.2.2.2.1 hF.2.2.2.2.2.2.2.2.1 hR.2 q0 hq (xcl h4) k0 hk (hF.2.2.2.2.1 _ hw) (fun _ h => h) (by rw [xfs_at hk]; simp only [xfv, hkd]) hd (k p l e Rm s m args below meth c H locs Q ls hF hRm hl hn hR hS hE)
theorem xV_getR {a ci k0 idx : Nat} {b : Nat} (hd : decode Y.2.1 pc = .ok (.getfield idx, 3) ∧ pc + 3 = pc') (hf : xFL Y.1.cls idx ci k0 2) (hs : (xSh G T a).1 = ci) (hb : R a k0 = some b) (k : xV G Y Tb o pc' xl (.ref b :: st) T R L I) : xV G Y Tb o pc xl (.ref a :: st) T R L I := by
  obtain ⟨hd, rfl⟩ := hd
  obtain ⟨hw, h4, hk, hkd⟩ := hf
  intro p l e Rm s m args below meth c H locs Q ls hF hRm hl hn hR hS hE
  obtain ⟨q0, hq⟩ := xhas (R := R) (L := L) (I := I) hs h4
  exact va_get hF.1 hF.2.1 hF.2.2.2.2.1 (xin h4) hF.2.2.2.1 hF.2.2.2.2.2.2.2.2.1 hR.2 q0 hq (xcl h4) k0 hk (hF.2.2.2.2.1 _ hw) (fun _ h => h) (by rw [xfs_at hk]; simp only [xfv, hkd, hb, va_rf]) hd (k p l e Rm s m args below meth c H locs Q ls hF hRm hl hn hR hS hE)
theorem xrange_set {N k0 : Nat} {f g : Nat → Value} (h : ∀ k, k ≠ k0 → f k = g k) : ((List.range N).map f).set k0 (g k0) = (List.range N).map g := by
  apply List.ext_getElem?
  intro i
  by_cases hi : k0 = i
  · subst hi
    by_cases hl : k0 < N
    · rw [List.getElem?_set_self (by simpa using hl)]
      simp [hl]
    · rw [List.getElem?_eq_none (by simp; omega), List.getElem?_eq_none (by simp; omega)]
  · rw [List.getElem?_set_ne hi]
    by_cases hl : i < N
    · simp [hl, h i (Ne.symm hi)]
    · rw [List.getElem?_eq_none (by simp; omega), List.getElem?_eq_none (by simp; omega)]
theorem xE_stI {G : xG} {T : xT} {R : xR} {L : xL} {I : xI} {a ci k0 : Nat} {x : Int32} (hs : (xSh G T a).1 = ci) (h4 : ci < 4) (hkd : xfk ci k0 = 0) (b : Nat) :
    va_up (xE G T R L I) a (.inr (ci, ((List.range (xnf ci)).map (fun k => xfv ci k (R a) (L a) (I a))).set k0 (.int x))) b = xE G T R L (xst I a k0 x) b := by
  by_cases hb : b = a
  · subst hb
    rw [show (Value.int x) = (fun k => xfv ci k (R b) (L b) (upd (I b) k0 x)) k0 by simp [xfv, hkd, upd],
      xrange_set (g := fun k => xfv ci k (R b) (L b) (upd (I b) k0 x)) (fun k hk => by simp only [xfv, upd]; split <;> simp [hk])]
    simp only [va_up, if_true, xE, xst]
    rw [xmk_obj hs h4]
  · simp [va_up, hb, xE, xst]
theorem xE_stL {G : xG} {T : xT} {R : xR} {L : xL} {I : xI} {a ci k0 : Nat} {x : Int64} (hs : (xSh G T a).1 = ci) (h4 : ci < 4) (hkd : xfk ci k0 = 1) (b : Nat) :
    va_up (xE G T R L I) a (.inr (ci, ((List.range (xnf ci)).map (fun k => xfv ci k (R a) (L a) (I a))).set k0 (.long x))) b = xE G T R (xsl L a k0 x) I b := by
  by_cases hb : b = a
  · subst hb
    rw [show (Value.long x) = (fun k => xfv ci k (R b) (va_up (L b) k0 x) (I b)) k0 by simp [xfv, hkd, va_up],
      xrange_set (g := fun k => xfv ci k (R b) (va_up (L b) k0 x) (I b)) (fun k hk => by simp only [xfv, va_up]; split <;> simp [hk])]
    simp only [va_up, if_true, xE, xsl]
    rw [xmk_obj hs h4]
  · simp [va_up, hb, xE, xsl]
theorem xE_stR {G : xG} {T : xT} {R : xR} {L : xL} {I : xI} {a ci k0 : Nat} {x : Nat} (hs : (xSh G T a).1 = ci) (h4 : ci < 4) (hkd : xfk ci k0 = 2) (b : Nat) :
    va_up (xE G T R L I) a (.inr (ci, ((List.range (xnf ci)).map (fun k => xfv ci k (R a) (L a) (I a))).set k0 (.ref x))) b = xE G T (xsr R a k0 x) L I b := by
  by_cases hb : b = a
  · subst hb
    rw [show (Value.ref x) = (fun k => xfv ci k (va_up (R b) k0 (some x)) (L b) (I b)) k0 by simp [xfv, hkd, va_up, va_rf],
      xrange_set (g := fun k => xfv ci k (va_up (R b) k0 (some x)) (L b) (I b)) (fun k hk => by simp only [xfv, va_up]; split <;> simp [hk])]
    simp only [va_up, if_true, xE, xsr]
    rw [xmk_obj hs h4]
  · simp [va_up, hb, xE, xsr]
theorem xE_stA {G : xG} {T : xT} {R : xR} {L : xL} {I : xI} {a n k0 : Nat} {x : Int32} (hs : xSh G T a = (4, n)) (b : Nat) :
    va_up (xE G T R L I) a (.inl (G.2.1.1, n, .inl (upd (I a) k0 x))) b = xE G T R L (xst I a k0 x) b := by
  by_cases hb : b = a
  · subst hb
    simp only [va_up, if_true, xE, xst, hs, xmk]
  · simp [va_up, hb, xE, xst]
theorem xE_stZ {G : xG} {T : xT} {R : xR} {L : xL} {I : xI} {a n k0 : Nat} {x : Int32} (hs : xSh G T a = (5, n)) (b : Nat) :
    va_up (xE G T R L I) a (.inl (G.2.1.2.1, n, .inl (upd (I a) k0 x))) b = xE G T R L (xst I a k0 x) b := by
  by_cases hb : b = a
  · subst hb
    simp only [va_up, if_true, xE, xst, hs, xmk]
  · simp [va_up, hb, xE, xst]
theorem xE_stQ {G : xG} {T : xT} {R : xR} {L : xL} {I : xI} {a n k0 x : Nat} (hs : xSh G T a = (6, n)) (b : Nat) :
    va_up (xE G T R L I) a (.inl (G.2.1.2.2, n, .inr (.inr (.inr (.inr (va_up (R a) k0 (some x))))))) b = xE G T (xsr R a k0 x) L I b := by
  by_cases hb : b = a
  · subst hb
    simp only [va_up, if_true, xE, xsr, hs, xmk]
  · simp [va_up, hb, xE, xsr]
/-- behind a store: the world is that of the new memory -/
theorem xRp_set {G : xG} {T : xT} {R R' : xR} {L L' : xL} {I I' : xI} {a q0 : Nat} {e : va_E} {H H1 : Heap} (hR : xRp G T R L I H) (hz : H.size ≤ H1.size) (hq : (va_pl (xads G T) (xE G T R L I))[q0]? = some (a, xE G T R L I a)) (ha : a ∈ xads G T)
    (h : va_P G.1 vwCl ((va_pl (xads G T) (xE G T R L I)).set q0 (a, e)) H1) (he : ∀ b, va_up (xE G T R L I) a e b = xE G T R' L' I' b) : xRp G T R' L' I' H1 := by
  rw [xpl_set (xD_ok G T _) ha hq, va_pl_congr he] at h
  exact ⟨Nat.le_trans hR.1 hz, h⟩
theorem xS_le {A : Nat → Prop} {H H1 : Heap} {locs : List Loc} (h : va_S A H H1 locs) : H.size ≤ H1.size := h.1
/-- two steps of what stays -/
theorem xS_tr {A : Nat → Prop} {H0 H H1 : Heap} {l1 l2 : List Loc} (h : va_S A H0 H l1) (h2 : va_S A H H1 l2) : va_S A H0 H1 l2 :=
  ⟨Nat.le_trans h.1 h2.1, fun q a b => (h2.2.1 q (Nat.lt_of_lt_of_le a h.1) b).trans (h.2.1 q a b), h2.2.2⟩
theorem xV_putI {a ci k0 idx : Nat} {x : Int32} (hd : decode Y.2.1 pc = .ok (.putfield idx, 3) ∧ pc + 3 = pc') (hf : xFP Y.1.cls idx ci k0 0 false .int) (hs : (xSh G T a).1 = ci)  (k : xV G Y Tb o pc' xl st T R L (xst I a k0 x)) : xV G Y Tb o pc xl (.int x :: .ref a :: st) T R L I := by
  obtain ⟨hd, rfl⟩ := hd
  obtain ⟨⟨hw, h4, hk, hkd⟩, hfin, hty⟩ := hf
  intro p l e Rm s m args below meth c H locs Q ls hF hRm hl hn hR hS hE
  obtain ⟨q0, hq⟩ := xhas (R := R) (L := L) (I := I) hs h4
  have ha : a ∈ xads G T := xsh_in (by rw [hs]; omega)
  have hq' : (va_pl (xads G T) (xE G T R L I))[q0]? = some (a, xE G T R L I a) := by rw [hq]; unfold xE; rw [xmk_obj hs h4]
  refine va_put (A := xA G) (H0 := H) hF.1 hF.2.1 hF.2.2.2.2.1 (xin h4) (xcy ci) (xcy_ok h4) (xcy_nm h4) hF.2.2.2.1 hF.2.2.2.2.2.2.2.2.1 hR.2 (xD_ok G T _) ⟨Nat.le_refl _, fun _ _ _ => rfl, hS.2.2⟩ q0 hq (xcl h4) k0 hk (hF.2.2.2.2.1 _ hw) (fun _ h => h) hfin (by rw [xcy_ok h4 k0 hk, hty]) rfl rfl (by simpa using hk) hd (fun H1 locs1 hP1 hD1 hS1 => ?_)
  exact k p l e Rm s m args below meth c H1 locs1 Q ls hF hRm hl hn (xRp_set hR hS1.1 hq' ha hP1 (xE_stI hs h4 hkd)) (xS_tr hS hS1) hE
theorem xV_putL {a ci k0 idx : Nat} {x : Int64} (hd : decode Y.2.1 pc = .ok (.putfield idx, 3) ∧ pc + 3 = pc') (hf : xFP Y.1.cls idx ci k0 1 false .long) (hs : (xSh G T a).1 = ci)  (k : xV G Y Tb o pc' xl st T R (xsl L a k0 x) I) : xV G Y Tb o pc xl (.long x :: .ref a :: st) T R L I := by
  obtain ⟨hd, rfl⟩ := hd
  obtain ⟨⟨hw, h4, hk, hkd⟩, hfin, hty⟩ := hf
  intro p l e Rm s m args below meth c H locs Q ls hF hRm hl hn hR hS hE
  obtain ⟨q0, hq⟩ := xhas (R := R) (L := L) (I := I) hs h4
  have ha : a ∈ xads G T := xsh_in (by rw [hs]; omega)
  have hq' : (va_pl (xads G T) (xE G T R L I))[q0]? = some (a, xE G T R L I a) := by rw [hq]; unfold xE; rw [xmk_obj hs h4]
  refine va_put (A := xA G) (H0 := H) hF.1 hF.2.1 hF.2.2.2.2.1 (xin h4) (xcy ci) (xcy_ok h4) (xcy_nm h4) hF.2.2.2.1 hF.2.2.2.2.2.2.2.2.1 hR.2 (xD_ok G T _) ⟨Nat.le_refl _, fun _ _ _ => rfl, hS.2.2⟩ q0 hq (xcl h4) k0 hk (hF.2.2.2.2.1 _ hw) (fun _ h => h) hfin (by rw [xcy_ok h4 k0 hk, hty]) rfl rfl (by simpa using hk) hd (fun H1 locs1 hP1 hD1 hS1 => ?_)
  exact k p l e Rm s m args below meth c H1 locs1 Q ls hF hRm hl hn (xRp_set hR hS1.1 hq' ha hP1 (xE_stL hs h4 hkd)) (xS_tr hS hS1) hE
theorem xV_putRF {a ci k0 idx : Nat} {x : Nat} {ty : FieldType} (hd : decode Y.2.1 pc = .ok (.putfield idx, 3) ∧ pc + 3 = pc') (hf : xFP Y.1.cls idx ci k0 2 true ty) (hs : (xSh G T a).1 = ci) (hr : narrow ty (.ref x) = .ref x) (hft : fits ty (.ref x) = true) (hini : Y.1.name = "<init>") (hdecl : ((xct ci) k0).1 = Y.1.cls) (k : xV G Y Tb o pc' xl st T (xsr R a k0 x) L I) : xV G Y Tb o pc xl (.ref x :: .ref a :: st) T R L I := by
  obtain ⟨hd, rfl⟩ := hd
  obtain ⟨⟨hw, h4, hk, hkd⟩, hfin, hty⟩ := hf
  intro p l e Rm s m args below meth c H locs Q ls hF hRm hl hn hR hS hE
  obtain ⟨q0, hq⟩ := xhas (R := R) (L := L) (I := I) hs h4
  have ha : a ∈ xads G T := xsh_in (by rw [hs]; omega)
  have hq' : (va_pl (xads G T) (xE G T R L I))[q0]? = some (a, xE G T R L I a) := by rw [hq]; unfold xE; rw [xmk_obj hs h4]
  refine va_putF (A := xA G) (H0 := H) hF.1 hF.2.1 hF.2.2.2.2.1 (xin h4) (xcy ci) (xcy_ok h4) (xcy_nm h4) hF.2.2.2.1 hF.2.2.2.2.2.2.2.2.1 hR.2 (xD_ok G T _) ⟨Nat.le_refl _, fun _ _ _ => rfl, hS.2.2⟩ q0 hq (xcl h4) k0 hk (hF.2.2.2.2.1 _ hw) (fun _ h => h) hfin (hF.2.2.2.2.2.1 hini) hdecl (by rw [xcy_ok h4 k0 hk, hty]) hr hft (by simpa using hk) hd (fun H1 locs1 hP1 hD1 hS1 => ?_)
  exact k p l e Rm s m args below meth c H1 locs1 Q ls hF hRm hl hn (xRp_set hR hS1.1 hq' ha hP1 (xE_stR hs h4 hkd)) (xS_tr hS hS1) hE
-- rows
def xRow (G : xG) (T : xT) (I : xI) (a n : Nat) (f : Nat → Int32) : Prop :=
  (xSh G T a = (4, n) ∧ f = I a) ∨ (a = G.2.2.2.1 ∧ n = 12 ∧ f = xnear) ∨ (a = G.2.2.2.2.1 ∧ n = G.2.2.2.2.2.1 ∧ f = G.2.2.2.2.2.2)
theorem xRow.of {a n : Nat} (h : xSh G T a = (4, n)) : xRow G T I a n (I a) := Or.inl ⟨h, rfl⟩
theorem xRow.near : xRow G T I G.2.2.2.1 12 xnear := Or.inr (Or.inl ⟨rfl, rfl, rfl⟩)
theorem xRow.scr : xRow G T I G.2.2.2.2.1 G.2.2.2.2.2.1 G.2.2.2.2.2.2 := Or.inr (Or.inr ⟨rfl, rfl, rfl⟩)
theorem xV_iald {a n : Nat} {f : Nat → Int32} {i : Int32} (hd : decode Y.2.1 pc = .ok (.iaload, 1) ∧ pc + 1 = pc') (hr : xRow G T I a n f) (hin : vp_in i n) (k : xV G Y Tb o pc' xl (.int (f i.toNatClampNeg) :: st) T R L I) : xV G Y Tb o pc xl (.int i :: .ref a :: st) T R L I := by
  obtain ⟨hd, rfl⟩ := hd
  intro p l e Rm s m args below meth c H locs Q ls hF hRm hl hn hR hS hE
  rcases hr with ⟨hs, rfl⟩ | ⟨rfl, rfl, rfl⟩ | ⟨rfl, rfl, rfl⟩
  · obtain ⟨q0, hq⟩ := xhasA (R := R) (L := L) (I := I) hs
    exact va_iald hF.1 hF.2.1 hF.2.2.2.2.2.2.2.2.1 hR.2 q0 0 hq rfl hin hd (k p l e Rm s m args below meth c H locs Q ls hF hRm hl hn hR hS hE)
  · exact va_ti hF.1 hF.2.1 hF.2.2.2.2.2.2.2.2.2.2.1 hS hin rfl hd (k p l e Rm s m args below meth c H locs Q ls hF hRm hl hn hR hS hE)
  · exact va_ti hF.1 hF.2.1 hF.2.2.2.2.2.2.2.2.2.2.2.1 hS hin rfl hd (k p l e Rm s m args below meth c H locs Q ls hF hRm hl hn hR hS hE)
theorem xV_alen {a n : Nat} {f : Nat → Int32} {v : Int32} (hd : decode Y.2.1 pc = .ok (.arraylength, 1) ∧ pc + 1 = pc') (hr : xRow G T I a n f) (hv : Int32.ofNat n = v) (k : xV G Y Tb o pc' xl (.int v :: st) T R L I) : xV G Y Tb o pc xl (.ref a :: st) T R L I := by
  obtain ⟨hd, rfl⟩ := hd
  intro p l e Rm s m args below meth c H locs Q ls hF hRm hl hn hR hS hE
  rcases hr with ⟨hs, rfl⟩ | ⟨rfl, rfl, rfl⟩ | ⟨rfl, rfl, rfl⟩
  · obtain ⟨q0, hq⟩ := xhasA (R := R) (L := L) (I := I) hs
    exact va_alen hF.1 hF.2.1 hF.2.2.2.2.2.2.2.2.1 hR.2 q0 0 hq rfl hv hd (k p l e Rm s m args below meth c H locs Q ls hF hRm hl hn hR hS hE)
  · exact va_tlen hF.1 hF.2.1 hF.2.2.2.2.2.2.2.2.2.2.1 hS hv hd (k p l e Rm s m args below meth c H locs Q ls hF hRm hl hn hR hS hE)
  · exact va_tlen hF.1 hF.2.1 hF.2.2.2.2.2.2.2.2.2.2.2.1 hS hv hd (k p l e Rm s m args below meth c H locs Q ls hF hRm hl hn hR hS hE)
theorem xV_alenQ {a n : Nat} {v : Int32} (hd : decode Y.2.1 pc = .ok (.arraylength, 1) ∧ pc + 1 = pc') (hs : xSh G T a = (6, n)) (hv : Int32.ofNat n = v) (k : xV G Y Tb o pc' xl (.int v :: st) T R L I) : xV G Y Tb o pc xl (.ref a :: st) T R L I := by
  obtain ⟨hd, rfl⟩ := hd
  intro p l e Rm s m args below meth c H locs Q ls hF hRm hl hn hR hS hE
  obtain ⟨q0, hq⟩ := xhasQ (R := R) (L := L) (I := I) hs
  exact va_alen hF.1 hF.2.1 hF.2.2.2.2.2.2.2.2.1 hR.2 q0 2 hq rfl hv hd (k p l e Rm s m args below meth c H locs Q ls hF hRm hl hn hR hS hE)
theorem xV_iast {a n : Nat} {i x : Int32} (hd : decode Y.2.1 pc = .ok (.iastore, 1) ∧ pc + 1 = pc') (hs : xSh G T a = (4, n)) (hin : vp_in i n) (k : xV G Y Tb o pc' xl st T R L (xst I a i.toNatClampNeg x)) : xV G Y Tb o pc xl (.int x :: .int i :: .ref a :: st) T R L I := by
  obtain ⟨hd, rfl⟩ := hd
  intro p l e Rm s m args below meth c H locs Q ls hF hRm hl hn hR hS hE
  obtain ⟨q0, hq⟩ := xhasA (R := R) (L := L) (I := I) hs
  have ha : a ∈ xads G T := xsh_in (by simp [hs])
  have hq' : (va_pl (xads G T) (xE G T R L I))[q0]? = some (a, xE G T R L I a) := by rw [hq]; unfold xE; rw [hs]; rfl
  refine va_iast (A := xA G) (H0 := H) hF.1 hF.2.1 hF.2.2.2.2.2.2.2.2.1 hR.2 (xD_ok G T _) ⟨Nat.le_refl _, fun _ _ _ => rfl, hS.2.2⟩ q0 0 hq rfl hin hd (fun H1 locs1 hP1 hD1 hS1 => ?_)
  exact k p l e Rm s m args below meth c H1 locs1 Q ls hF hRm hl hn (xRp_set hR hS1.1 hq' ha hP1 (xE_stA hs)) (xS_tr hS hS1) hE
theorem xV_bald {a n : Nat} {i : Int32} (hd : decode Y.2.1 pc = .ok (.baload, 1) ∧ pc + 1 = pc') (hs : xSh G T a = (5, n)) (hin : vp_in i n) (k : xV G Y Tb o pc' xl (.int (I a i.toNatClampNeg) :: st) T R L I) : xV G Y Tb o pc xl (.int i :: .ref a :: st) T R L I := by
  obtain ⟨hd, rfl⟩ := hd
  intro p l e Rm s m args below meth c H locs Q ls hF hRm hl hn hR hS hE
  obtain ⟨q0, hq⟩ := xhasZ (R := R) (L := L) (I := I) hs
  exact va_zald hF.1 hF.2.1 hF.2.2.2.2.2.2.2.2.1 hR.2 q0 1 hq rfl hin hd (k p l e Rm s m args below meth c H locs Q ls hF hRm hl hn hR hS hE)
theorem xV_bast {a n : Nat} {i x : Int32} (hd : decode Y.2.1 pc = .ok (.bastore, 1) ∧ pc + 1 = pc') (hs : xSh G T a = (5, n)) (hin : vp_in i n) (hx : vp_nar .boolean x = x) (k : xV G Y Tb o pc' xl st T R L (xst I a i.toNatClampNeg x)) : xV G Y Tb o pc xl (.int x :: .int i :: .ref a :: st) T R L I := by
  obtain ⟨hd, rfl⟩ := hd
  intro p l e Rm s m args below meth c H locs Q ls hF hRm hl hn hR hS hE
  obtain ⟨q0, hq⟩ := xhasZ (R := R) (L := L) (I := I) hs
  have ha : a ∈ xads G T := xsh_in (by simp [hs])
  have hq' : (va_pl (xads G T) (xE G T R L I))[q0]? = some (a, xE G T R L I a) := by rw [hq]; unfold xE; rw [hs]; rfl
  refine va_zast (A := xA G) (H0 := H) hF.1 hF.2.1 hF.2.2.2.2.2.2.2.2.1 hR.2 (xD_ok G T _) ⟨Nat.le_refl _, fun _ _ _ => rfl, hS.2.2⟩ q0 1 hq rfl hin hd (fun H1 locs1 hP1 hD1 hS1 => ?_)
  rw [hx] at hP1
  exact k p l e Rm s m args below meth c H1 locs1 Q ls hF hRm hl hn (xRp_set hR hS1.1 hq' ha hP1 (xE_stZ hs)) (xS_tr hS hS1) hE
theorem xV_aald {a n b : Nat} {i : Int32} (hd : decode Y.2.1 pc = .ok (.aaload, 1) ∧ pc + 1 = pc') (hs : xSh G T a = (6, n)) (hin : vp_in i n) (hb : R a i.toNatClampNeg = some b) (k : xV G Y Tb o pc' xl (.ref b :: st) T R L I) : xV G Y Tb o pc xl (.int i :: .ref a :: st) T R L I := by
  obtain ⟨hd, rfl⟩ := hd
  intro p l e Rm s m args below meth c H locs Q ls hF hRm hl hn hR hS hE
  obtain ⟨q0, hq⟩ := xhasQ (R := R) (L := L) (I := I) hs
  refine va_aldq hF.1 hF.2.1 hF.2.2.2.2.2.2.2.2.1 hR.2 q0 2 hq rfl hin hd ?_
  rw [hb]
  exact k p l e Rm s m args below meth c H locs Q ls hF hRm hl hn hR hS hE
theorem xV_aast {a n b : Nat} {i : Int32} (hd : decode Y.2.1 pc = .ok (.aastore, 1) ∧ pc + 1 = pc') (hs : xSh G T a = (6, n)) (hin : vp_in i n) (hb : (xSh G T b).1 = 0) (k : xV G Y Tb o pc' xl st T (xsr R a i.toNatClampNeg b) L I) : xV G Y Tb o pc xl (.ref b :: .int i :: .ref a :: st) T R L I := by
  obtain ⟨hd, rfl⟩ := hd
  intro p l e Rm s m args below meth c H locs Q ls hF hRm hl hn hR hS hE
  obtain ⟨q0, hq⟩ := xhasQ (R := R) (L := L) (I := I) hs
  obtain ⟨q1, hq1⟩ := xhas (R := R) (L := L) (I := I) hb (by decide)
  have ha : a ∈ xads G T := xsh_in (by simp [hs])
  have hq' : (va_pl (xads G T) (xE G T R L I))[q0]? = some (a, xE G T R L I a) := by rw [hq]; unfold xE; rw [hs]; rfl
  refine va_astq (A := xA G) (H0 := H) (r := (RX0, TX0, 12)) hF.1 hF.2.1 hF.2.2.2.2.2.2.2.2.1 hR.2 (xD_ok G T _) ⟨Nat.le_refl _, fun _ _ _ => rfl, hS.2.2⟩ q0 2 q1 0 hq rfl hq1 rfl hin hd (fun H1 locs1 hP1 hD1 hS1 => ?_)
  exact k p l e Rm s m args below meth c H1 locs1 Q ls hF hRm hl hn (xRp_set hR hS1.1 hq' ha hP1 (xE_stQ hs)) (xS_tr hS hS1) hE
theorem xV_near {idx : Nat} (hd : decode Y.2.1 pc = .ok (.getstatic idx, 3) ∧ pc + 3 = pc') (hw : Cond.fieldLink Y.1.cls idx RX2 "NEAR" "[I" ∈ xW) (k : xV G Y Tb o pc' xl (.ref G.2.2.2.1 :: st) T R L I) : xV G Y Tb o pc xl st T R L I := by
  obtain ⟨hd, rfl⟩ := hd
  exact fun p l e Rm s m args below meth c H locs Q ls hF hRm hl hn hR hS hE => va_gets hF.1 hF.2.1 hF.2.2.2.2.2.2.2.2.2.1 hS hF.2.2.2.1 (hF.2.2.2.2.1 _ hw) (fun _ h => h) hd (k p l e Rm s m args below meth c H locs Q ls hF hRm hl hn hR hS hE)
theorem xV_nearN {idx : Nat} {host : String} (hd : decode Y.2.1 pc = .ok (.getstatic idx, 3) ∧ pc + 3 = pc') (hw : Cond.fieldLinkNest Y.1.cls idx RX2 "NEAR" "[I" host ∈ xnest) (k : xV G Y Tb o pc' xl (.ref G.2.2.2.1 :: st) T R L I) : xV G Y Tb o pc xl st T R L I := by
  obtain ⟨hd, rfl⟩ := hd
  exact fun p l e Rm s m args below meth c H locs Q ls hF hRm hl hn hR hS hE => va_getsN hF.1 hF.2.1 hF.2.2.2.2.2.2.2.2.2.1 hS hF.2.2.2.1 (va_Nw.use rfl (hF.2.2.2.2.2.2.2.2.2.2.2.2.1 _ hw)) (fun _ h => h) hd (k p l e Rm s m args below meth c H locs Q ls hF hRm hl hn hR hS hE)
/-- arraycopy between two int rows -/
theorem xV_acopy {a0 a n0 n1 idx : Nat} {sp dp n : Int32} (hd : decode Y.2.1 pc = .ok (.invokestatic idx, 3) ∧ pc + 3 = pc') (hw : Cond.methodLink Y.1.cls idx arraycopyName ∈ xW ∧ Cond.static arraycopyName ∈ xW ∧ Cond.initialized "java/lang/System" ∈ xW) (hnat : Cond.native arraycopyName ∈ xW) (hs0 : xSh G T a0 = (4, n0)) (hs1 : xSh G T a = (4, n1))
    (h1 : ¬ sp < 0) (h2 : ¬ dp < 0) (h3 : ¬ n < 0) (h4 : sp.toNatClampNeg + n.toNatClampNeg ≤ n0) (h5 : dp.toNatClampNeg + n.toNatClampNeg ≤ n1) (hfr : 1 ≤ Y.2.2.2.2.1) (hlo : (st.map fun v => v.category).sum + (nativeFrameWords "java/lang/System" "arraycopy" 5 + 11) ≤ Y.2.2.2.2.2)
    (k : xV G Y Tb o pc' xl st T R L (va_up I a (va_cpy (I a0) (I a) sp.toNatClampNeg dp.toNatClampNeg n.toNatClampNeg))) : xV G Y Tb o pc xl (.int n :: .int dp :: .ref a :: .int sp :: .ref a0 :: st) T R L I := by
  obtain ⟨hd, rfl⟩ := hd
  intro p l e Rm s m args below meth c H locs Q ls hF hRm hl hn hR hS hE
  obtain ⟨q0, hq0⟩ := xhasA (R := R) (L := L) (I := I) hs0
  obtain ⟨q1, hq1⟩ := xhasA (R := R) (L := L) (I := I) hs1
  have ha : a ∈ xads G T := xsh_in (by simp [hs1])
  have hq' : (va_pl (xads G T) (xE G T R L I))[q1]? = some (a, xE G T R L I a) := by rw [hq1]; unfold xE; rw [hs1]; rfl
  refine va_copyi (A := xA G) (H0 := H) (ty := .int) hF.1 hF.2.1 (hF.2.2.1.trans hl.1.symm) hF.2.2.2.1 (hF.2.2.2.2.1 _ hw.1) (hF.2.2.2.2.1 _ hnat) (hF.2.2.2.2.1 _ hw.2.1) (hF.2.2.2.2.1 _ hw.2.2) hF.2.2.2.2.2.2.2.2.1 hR.2 (xD_ok G T _) ⟨Nat.le_refl _, fun _ _ _ => rfl, hS.2.2⟩ q0 q1 0 0 hq0 hq1 rfl rfl rfl h1 h2 h3 h4 h5 (fun _ _ => rfl) (by rw [hRm.1]; exact hfr) (by rw [hRm.2.1]; exact hlo) hd (fun H1 locs1 hP1 hD1 hS1 => ?_)
  refine k p l e Rm s m args below meth c H1 locs1 Q ls hF hRm hl hn (xRp_set hR hS1.1 hq' ha hP1 (fun b => ?_)) (xS_tr hS hS1) hE
  by_cases hb : b = a
  · subst hb
    simp only [va_up, if_true, xE, hs1, xmk]
  · simp [va_up, hb, xE]
end XR
end
section
/-! CALLS, NEW CELLS, ENTRY AND END -/
def xent (vs : List Value) (n : Nat) : List (Option Value) :=
  let l := vs.flatMap (fun v => if v.category = 2 then [some v, none] else [some v])
  l ++ List.replicate (n - l.length) none
theorem xe_none : ∀ (k m : Nat), xe k (List.replicate m none) = [] := by
  intro k m
  induction m generalizing k with
  | zero => rfl
  | succ m ih => exact ih (k + 1)
theorem xe_ent : ∀ (vs : List Value) (k m : Nat), xe k (vs.flatMap (fun v => if v.category = 2 then [some v, none] else [some v]) ++ List.replicate m none) = lv_args k vs := by
  intro vs
  induction vs with
  | nil => intro k m; exact xe_none k m
  | cons v vs ih =>
    intro k m
    by_cases hc : v.category = 2
    · simp only [List.flatMap_cons, hc, if_true, List.cons_append, List.nil_append, lv_args]
      show (k, v) :: xe (k + 1 + 1) _ = _
      rw [ih]
    · simp only [List.flatMap_cons, hc, if_false, List.cons_append, List.nil_append, lv_args]
      show (k, v) :: xe (k + 1) _ = _
      rw [ih]
theorem xP_iff {D : va_G} {cl : List vw_C} {L : List Nat} {f : Nat → va_E} {H : Heap} : va_P D cl (va_pl L f) H ↔ ∀ a ∈ L, va_at D cl (a, f a) H := by
  constructor
  · intro h a ha
    obtain ⟨k, hk⟩ := xpl_get (f := f) ha
    exact h k _ hk
  · intro h k q hq
    obtain ⟨a, ha, rfl⟩ := List.mem_map.mp (List.mem_of_getElem? hq)
    exact h a ha
theorem xW_size {p : Program} {l : Launch} {e : Env} {R : Room} {s : State} {m : MethodId} {args : Array Value} {below : List Frame} {meth : Method} {c : Code} {H : Heap} {locs : List Loc} {cells slots : Nat} {Q : State → Prop} {g : JFrame}
    (k : H.size ≤ s.heap.size + cells → W p l e R s m args below meth c H locs cells slots Q g) : W p l e R s m args below meth c H locs cells slots Q g :=
  fun T hT X => k (by rw [← hT]; exact X.heapSize) T hT X
theorem xnest_warm {s U : State} (hW : s.WarmedH U.vm) (h : ∀ w ∈ xnest, va_Nw w s) : ∀ w ∈ xnest, va_Nw w U := by
  intro w hw
  have h1 := h w hw
  simp only [xnest, List.mem_cons, List.not_mem_nil, or_false] at hw
  rcases hw with rfl | rfl | rfl | rfl | rfl | rfl | rfl | rfl | rfl | rfl
  all_goals first | exact va_Nw.warmM hW h1 | exact va_Nw.warmF hW h1
theorem xCx.step {G : xG} {s U : State} {locs : List Loc} (hW : s.WarmedH U.vm) (hS : va_S (xA G) s.heap U.heap locs) (h : xCx G s) : xCx G U := by
  obtain ⟨h1, h2, h3, h4, h5, h6, h7⟩ := h
  exact ⟨Nat.le_trans h1 hS.1, h2.moved hW.alike, (h3.moved hW.alike).kept hS.2.1, (h4.moved hW.alike).kept hS.2.1, (h5.moved hW.alike).kept hS.2.1, xnest_warm hW h6, h7.moved hW.alike⟩
theorem xblind (G : xG) (av : List Value) (T : xT) (R : xR) (L : xL) (I : xI) : FrameBlind (va_Pc av (fun U => U.heap.size = G.2.2.1 + T.length ∧ xCx G U ∧ xRp G T R L I U.heap)) := by
  intro a U g mk h
  obtain ⟨h1, h2, h3, h4⟩ := h
  exact ⟨h1, h2, xCx.step (U := U.calling g mk a) (locs := []) (State.WarmedH.refl U) va_S.rf h3, h4⟩
theorem xgood {Y : xY} (h : Cond.code Y.1 Y.2.1 Y.2.2.1 Y.2.2.2.1 ∈ xW) : GoodIn xW (xws Y) := by
  have h1 : ∀ w ∈ xW, w ∈ xW ∧ ((w.onTables && w.keeps) = true ∨ ∃ ty, w = .arrayClass ty) := fun w hw => ⟨hw, good_of_word (List.mem_filter.mp hw).2⟩
  intro w hw
  rcases List.mem_cons.mp hw with rfl | hw
  · exact h1 _ h
  · exact h1 _ hw
/-- what a call's words say: the link (nest: under which host), the code, the number of arguments -/
def xCB (own : String) (idx : Nat) (Y : xY) (n : Nat) (nest : Option String) : Prop :=
  (match nest with | none => Cond.methodLink own idx Y.1 ∈ xW | some h => Cond.methodLinkNest own idx Y.1 h ∈ xnest) ∧ Cond.initialized Y.1.cls ∈ xW ∧ Cond.code Y.1 Y.2.1 Y.2.2.1 Y.2.2.2.1 ∈ xW ∧
  (Y.1.cls ≠ "java/lang/invoke/MethodHandle" ∧ Y.1.cls ≠ "java/lang/invoke/VarHandle" ∧ (parseMethodDescriptor Y.1.desc).map (fun d => d.parameters.length) = some n)
def xCS (own : String) (idx : Nat) (Y : xY) (n : Nat) (nest : Option String) : Prop := xCB own idx Y n nest ∧ Cond.static Y.1 ∈ xW
def xCI (own : String) (idx : Nat) (Y : xY) (n : Nat) (nest : Option String) : Prop := xCB own idx Y n nest ∧ Y.1.name = "<init>" ∧ Cond.instanceMethod Y.1 ∈ xW ∧ Y.2.2.2.1 = none
def xCV (own : String) (idx : Nat) (Y : xY) (n : Nat) (ci : Nat) : Prop := xCB own idx Y n none ∧ Cond.instanceMethod Y.1 ∈ xW ∧ Cond.selects Y.1.cls Y.1 Y.1 ∈ xW ∧ ci < 4 ∧ xcn ci = Y.1.cls
section XC
variable {G : xG} {Y Y' : xY} {Tb : xT} {o : xO} {pc pc' idx n : Nat} {xl : List (Option Value)} {st rest : List Value} {T T' : xT} {R R' : xR} {L L' : xL} {I I' : xI} {av : List Value} {v : Option Value} {nest : Option String}
theorem xcall_go {p : Program} {l : Launch} {e : Env} {Rm : Room} {s : State} {m : MethodId} {args : Array Value} {below : List Frame} {meth : Method} {c : Code} {H : Heap} {locs : List Loc} {cells slots mc ms : Nat} {Q : State → Prop} {ls : Array Slot} {a : Array Value}
    (hrun : va_Run p l e Rm s m args below meth c H locs cells slots mc ms (F0 m pc ls st) rest (xQ (v, T', R', L', I') G a) (xA G)) (hS : va_S (xA G) s.heap H locs)
    (k : ∀ (H1 : Heap) (locs1 : List Loc), xRp G T' R' L' I' H1 → va_S (xA G) s.heap H1 locs1 → W p l e Rm s m args below meth c H1 locs1 (cells + mc) (slots + ms) Q (F0 m (pc + 3) ls (v.toList ++ rest))) : W p l e Rm s m args below meth c H locs cells slots Q (F0 m pc ls st) := by
  intro T0 hT X
  obtain ⟨v0, st₀, t, T1, L1, h0, X', hL, e1, e2, ⟨hv, hrp, hz, hk⟩, hst⟩ := hrun T0 hT X
  have hv : v0 = v := by injection hv
  subst hv
  rw [h0] at hz hk
  obtain ⟨t2, a1, b1⟩ := k T1.heap (locs ++ L1) (by rw [e1]; exact hrp)
    ⟨Nat.le_trans hS.1 (by rw [e1]; exact hz), fun q h1 h2 => by rw [e1, hk q (Nat.lt_of_lt_of_le h1 hS.1) h2]; exact hS.2.1 q h1 h2, fun q hq => by
      rcases List.mem_append.mp hq with h | h
      · exact hS.2.2 q h
      · exact hL q h⟩ T1 rfl X'
  exact ⟨t2, hst t2 a1, b1⟩
theorem xroom (h1 : xle Tb T) (h2 : xle T T') (h3 : xle T' o.2.1) {Rm : Room} (hc : o.2.1.length - Tb.length ≤ Rm.cells) (hs : xZ o.2.1 - xZ Tb ≤ Rm.slots) :
    (T.length - Tb.length + (T'.length - T.length) ≤ Rm.cells ∧ xZ T - xZ Tb + (xZ T' - xZ T) ≤ Rm.slots) ∧ T.length - Tb.length + (T'.length - T.length) = T'.length - Tb.length ∧ xZ T - xZ Tb + (xZ T' - xZ T) = xZ T' - xZ Tb := by
  obtain ⟨a1, b1⟩ := h1
  obtain ⟨a2, b2⟩ := h2
  obtain ⟨a3, b3⟩ := h3
  exact ⟨⟨by omega, by omega⟩, by omega, by omega⟩
theorem xpre {s : State} {H : Heap} {locs : List Loc} (hC : xCx G s) (hS : va_S (xA G) s.heap H locs) (hR : xRp G T R L I H) (hz : H.size = G.2.2.1 + T.length) : ∀ U : State, U.heap = H → s.WarmedH U.vm → va_Pc av (fun U => U.heap.size = G.2.2.1 + T.length ∧ xCx G U ∧ xRp G T R L I U.heap) av.toArray U :=
  fun U hU hW => ⟨rfl, by rw [hU]; exact hz, hC.step hW (by rw [hU]; exact hS), by rw [hU]; exact hR⟩
theorem xV_callS (hd : decode Y.2.1 pc = .ok (.invokestatic idx, 3) ∧ pc + 3 = pc') (hc : xCS Y.1.cls idx Y' n nest) (hcon : xCon G Y' av T R L I (v, T', R', L', I')) (hn : av.length = n) (hst : st = av.reverse ++ rest) (hcat : (rest.map fun v => v.category).sum ≤ 8)
    (hr : Y'.2.2.2.2.1 + 1 ≤ Y.2.2.2.2.1 ∧ 8 + (Y'.2.2.1 + 11) + Y'.2.2.2.2.2 ≤ Y.2.2.2.2.2) (h1 : xle Tb T) (h3 : xle T' o.2.1) (k : xV G Y Tb o pc' xl (v.toList ++ rest) T' R' L' I') : xV G Y Tb o pc xl st T R L I := by
  obtain ⟨hd, rfl⟩ := hd
  subst hst
  intro p l e Rm s m args below meth c H locs Q ls hF hRm hl hln hR hS hE
  obtain ⟨⟨hw, hini, hcode, hdd⟩, hstat⟩ := hc
  obtain ⟨hroom, hce, hse⟩ := xroom h1 hcon.1 h3 hRm.2.2.1 hRm.2.2.2
  refine xW_size (fun hz => ?_)
  have hz : H.size = G.2.2.1 + T.length := by have := hR.1; have := hF.2.2.2.2.2.2.1; have := h1.1; omega
  have hts := hF.2.2.2.2.1
  have hP := xpre (av := av) (R := R) (L := L) (I := I) hF.2.2.2.2.2.2.2 hS hR hz
  have kk : ∀ (H1 : Heap) (locs1 : List Loc), xRp G T' R' L' I' H1 → va_S (xA G) s.heap H1 locs1 → W p l e Rm s m args below meth c H1 locs1 (T.length - Tb.length + (T'.length - T.length)) (xZ T - xZ Tb + (xZ T' - xZ T)) Q (F0 m (pc + 3) ls (v.toList ++ rest)) := by
    intro H1 locs1 q1 q2
    rw [hce, hse]
    exact k p l e Rm s m args below meth c H1 locs1 Q ls hF hRm hl hln q1 q2 hE
  have hR2 : (Y'.2.2.2.2.1 + 1 ≤ Rm.frames ∧ 8 + (Y'.2.2.1 + 11) + Y'.2.2.2.2.2 ≤ Rm.locals) := by rw [hRm.1, hRm.2.1]; exact hr
  cases nest with
  | none =>
    refine xcall_go (va_runS (As := av) (rest := rest) ⟨hF.1, hF.2.1, hF.2.2.1, hF.2.2.2.1, hts⟩ (hcon.2 l) ⟨callB_of n hts (xgood hcode) rfl rfl rfl (hts _ hini) (hts _ hw) hdd hR2, hts _ hstat⟩ ⟨xblind G av T R L I, hP⟩ rfl hn hl.1 rfl (lv_room hcat) hd hroom) hS kk
  | some host =>
    refine xcall_go (va_runSN (As := av) (rest := rest) ⟨hF.1, hF.2.1, hF.2.2.1, hF.2.2.2.1, hts⟩ (hcon.2 l) ⟨va_cnB n hts (xgood hcode) rfl rfl rfl (hF.2.2.2.2.2.2.2.2.2.2.2.2.1 _ hw) (hts _ hini) hdd hR2, hts _ hstat, trivial⟩ ⟨xblind G av T R L I, hP⟩ rfl hn hl.1 rfl (lv_room hcat) hd hroom) hS kk
theorem xV_callI {b : Nat} (hd : decode Y.2.1 pc = .ok (.invokespecial idx, 3) ∧ pc + 3 = pc') (hc : xCI Y.1.cls idx Y' n nest) (hcon : xCon G Y' (.ref b :: av) T R L I (v, T', R', L', I')) (hn : av.length = n) (hst : st = av.reverse ++ .ref b :: rest) (hcat : (rest.map fun v => v.category).sum ≤ 8)
    (hr : Y'.2.2.2.2.1 + 1 ≤ Y.2.2.2.2.1 ∧ 8 + (Y'.2.2.1 + 11) + Y'.2.2.2.2.2 ≤ Y.2.2.2.2.2) (h1 : xle Tb T) (h3 : xle T' o.2.1) (k : xV G Y Tb o pc' xl (v.toList ++ rest) T' R' L' I') : xV G Y Tb o pc xl st T R L I := by
  obtain ⟨hd, rfl⟩ := hd
  subst hst
  intro p l e Rm s m args below meth c H locs Q ls hF hRm hl hln hR hS hE
  obtain ⟨⟨hw, hini, hcode, hdd⟩, hinit, hinst, hnone⟩ := hc
  obtain ⟨hroom, hce, hse⟩ := xroom h1 hcon.1 h3 hRm.2.2.1 hRm.2.2.2
  refine xW_size (fun hz => ?_)
  have hz : H.size = G.2.2.1 + T.length := by have := hR.1; have := hF.2.2.2.2.2.2.1; have := h1.1; omega
  have hts := hF.2.2.2.2.1
  have hP := xpre (av := .ref b :: av) (R := R) (L := L) (I := I) hF.2.2.2.2.2.2.2 hS hR hz
  have kk : ∀ (H1 : Heap) (locs1 : List Loc), xRp G T' R' L' I' H1 → va_S (xA G) s.heap H1 locs1 → W p l e Rm s m args below meth c H1 locs1 (T.length - Tb.length + (T'.length - T.length)) (xZ T - xZ Tb + (xZ T' - xZ T)) Q (F0 m (pc + 3) ls (v.toList ++ rest)) := by
    intro H1 locs1 q1 q2
    rw [hce, hse]
    exact k p l e Rm s m args below meth c H1 locs1 Q ls hF hRm hl hln q1 q2 hE
  have hR2 : (Y'.2.2.2.2.1 + 1 ≤ Rm.frames ∧ 8 + (Y'.2.2.1 + 11) + Y'.2.2.2.2.2 ≤ Rm.locals) := by rw [hRm.1, hRm.2.1]; exact hr
  have hG := xgood hcode
  rw [hnone] at hcode
  have hws : xws Y' = Cond.code Y'.1 Y'.2.1 Y'.2.2.1 none :: xW := by unfold xws; rw [hnone]
  cases nest with
  | none =>
    refine xcall_go (va_runI (As := av) (rest := rest) ⟨hF.1, hF.2.1, hF.2.2.1, hF.2.2.2.1, hts⟩ (hcon.2 l) ⟨callB_of n hts hG hws rfl rfl (hts _ hini) (hts _ hw) hdd hR2, hinit, hts _ hinst⟩ ⟨xblind G _ T R L I, hP⟩ rfl hn hl.1 rfl (lv_room hcat) hd hroom) hS kk
  | some host =>
    refine xcall_go (va_runIN (As := av) (rest := rest) ⟨hF.1, hF.2.1, hF.2.2.1, hF.2.2.2.1, hts⟩ (hcon.2 l) ⟨va_cnB n hts hG hws rfl rfl (hF.2.2.2.2.2.2.2.2.2.2.2.2.1 _ hw) (hts _ hini) hdd hR2, hinit, hts _ hinst⟩ ⟨xblind G _ T R L I, hP⟩ rfl hn hl.1 rfl (lv_room hcat) hd hroom) hS kk
theorem xV_callV {b ci : Nat} (hd : decode Y.2.1 pc = .ok (.invokevirtual idx, 3) ∧ pc + 3 = pc') (hc : xCV Y.1.cls idx Y' n ci) (hsh : (xSh G T b).1 = ci) (hcon : xCon G Y' (.ref b :: av) T R L I (v, T', R', L', I')) (hn : av.length = n) (hst : st = av.reverse ++ .ref b :: rest) (hcat : (rest.map fun v => v.category).sum ≤ 8)
    (hr : Y'.2.2.2.2.1 + 1 ≤ Y.2.2.2.2.1 ∧ 8 + (Y'.2.2.1 + 11) + Y'.2.2.2.2.2 ≤ Y.2.2.2.2.2) (h1 : xle Tb T) (h3 : xle T' o.2.1) (k : xV G Y Tb o pc' xl (v.toList ++ rest) T' R' L' I') : xV G Y Tb o pc xl st T R L I := by
  obtain ⟨hd, rfl⟩ := hd
  subst hst
  intro p l e Rm s m args below meth c H locs Q ls hF hRm hl hln hR hS hE
  obtain ⟨⟨hw, hini, hcode, hdd⟩, hinst, hsel, h4, hcn⟩ := hc
  obtain ⟨hroom, hce, hse⟩ := xroom h1 hcon.1 h3 hRm.2.2.1 hRm.2.2.2
  refine xW_size (fun hz => ?_)
  have hz : H.size = G.2.2.1 + T.length := by have := hR.1; have := hF.2.2.2.2.2.2.1; have := h1.1; omega
  have hts := hF.2.2.2.2.1
  have hP := xpre (av := .ref b :: av) (R := R) (L := L) (I := I) hF.2.2.2.2.2.2.2 hS hR hz
  have kk : ∀ (H1 : Heap) (locs1 : List Loc), xRp G T' R' L' I' H1 → va_S (xA G) s.heap H1 locs1 → W p l e Rm s m args below meth c H1 locs1 (T.length - Tb.length + (T'.length - T.length)) (xZ T - xZ Tb + (xZ T' - xZ T)) Q (F0 m (pc + 3) ls (v.toList ++ rest)) := by
    intro H1 locs1 q1 q2
    rw [hce, hse]
    exact k p l e Rm s m args below meth c H1 locs1 Q ls hF hRm hl hln q1 q2 hE
  have hR2 : (Y'.2.2.2.2.1 + 1 ≤ Rm.frames ∧ 8 + (Y'.2.2.1 + 11) + Y'.2.2.2.2.2 ≤ Rm.locals) := by rw [hRm.1, hRm.2.1]; exact hr
  obtain ⟨q0, hq⟩ := xhas (R := R) (L := L) (I := I) hsh h4
  obtain ⟨cell, g1, g2, g3⟩ := va_recv hF.2.2.2.2.2.2.2.2.1 hR.2 (xcl h4) hq
  refine xcall_go (va_runV (C := Y'.1.cls) (As := av) (rest := rest) ⟨hF.1, hF.2.1, hF.2.2.1, hF.2.2.2.1, hts⟩ (hcon.2 l) ⟨callB_of n hts (xgood hcode) rfl rfl rfl (hts _ hini) (hts _ hw) hdd hR2, hts _ hinst, hts _ hsel⟩ ⟨xblind G _ T R L I, ⟨cell, g1, g2, by rw [← hcn]; exact g3⟩, hP⟩ rfl hn hl.1 rfl (lv_room hcat) hd hroom) hS kk
theorem xV_objInit {b : Nat} (hd : decode Y.2.1 pc = .ok (.invokespecial idx, 3) ∧ pc + 3 = pc') (hw : Cond.methodLink Y.1.cls idx Lib.objectInit ∈ xW ∧ Cond.instanceMethod Lib.objectInit ∈ xW ∧ Cond.code Lib.objectInit ⟨#[0xb1]⟩ 1 none ∈ xW) (hfr : 1 ≤ Y.2.2.2.2.1) (hlo : (rest.map fun v => v.category).sum + 12 ≤ Y.2.2.2.2.2)
    (k : xV G Y Tb o pc' xl rest T R L I) : xV G Y Tb o pc xl (.ref b :: rest) T R L I := by
  obtain ⟨hd, rfl⟩ := hd
  intro p l e Rm s m args below meth c H locs Q ls hF hRm hl hln hR hS hE
  exact W.objInit hF.1 hF.2.1 hF.2.2.2.1 (hF.2.2.2.2.1 _ hw.1) (hF.2.2.2.2.1 _ hw.2.1) (hF.2.2.2.2.1 _ hw.2.2) rfl (hl.1.trans hF.2.2.1.symm) rfl hd (by rw [hRm.1]; exact hfr) (by rw [hRm.2.1]; show 2 * 0 + _ + 12 ≤ _; omega) (k p l e Rm s m args below meth c H locs Q ls hF hRm hl hln hR hS hE)
-- ===== returns =====
theorem xV_ireturn {x : Int32} (hd : decode Y.2.1 pc = .ok (.ireturn, 1)) (hr : xret Y.2.2.2.1 = .ireturn) (h : o = (some (.int x), T, R, L, I)) : xV G Y Tb o pc xl [.int x] T R L I := by
  subst h
  intro p l e Rm s m args below meth c H locs Q ls hF hRm hl hln hR hS hE
  exact hE H locs ls pc (by rw [hr]; exact hd) hR hS
theorem xV_lreturn {x : Int64} (hd : decode Y.2.1 pc = .ok (.lreturn, 1)) (hr : xret Y.2.2.2.1 = .lreturn) (h : o = (some (.long x), T, R, L, I)) : xV G Y Tb o pc xl [.long x] T R L I := by
  subst h
  intro p l e Rm s m args below meth c H locs Q ls hF hRm hl hln hR hS hE
  exact hE H locs ls pc (by rw [hr]; exact hd) hR hS
theorem xV_return (hd : decode Y.2.1 pc = .ok (.return_, 1)) (hr : xret Y.2.2.2.1 = .return_) (h : o = (none, T, R, L, I)) : xV G Y Tb o pc xl [] T R L I := by
  subst h
  intro p l e Rm s m args below meth c H locs Q ls hF hRm hl hln hR hS hE
  exact hE H locs ls pc (by rw [hr]; exact hd) hR hS
def xRok (Y : xY) (o : xO) : Prop := (Y.2.2.2.1 = none ∧ o.1 = none) ∨ (Y.2.2.2.1 = some .int ∧ ∃ r, o.1 = some (.int r)) ∨ (Y.2.2.2.1 = some .boolean ∧ ∃ r, o.1 = some (.int r) ∧ narrow .boolean (.int r) = .int r) ∨ (Y.2.2.2.1 = some .long ∧ ∃ r, o.1 = some (.long r))
theorem xend {p : Program} {l : Launch} {e : Env} {Rm : Room} {s : State} {m : MethodId} {args : Array Value} {below : List Frame} {meth : Method} {c : Code}
    (hx : p.tables.exec = Jvm.exec) (hb : c.code = Y.2.1) (hret : meth.sig.returnType = Y.2.2.2.1) (hlk : meth.locks = false) (hok : xRok Y o) :
    xEnd G Y p l e Rm s m args below meth c T o (MQ below (xQ o G) args s (o.2.1.length - T.length) (xZ o.2.1 - xZ T) (xA G)) := by
  intro H locs ls pc hd hR hS
  obtain ⟨v, T', R', L', I'⟩ := o
  rcases hok with ⟨h1, h2⟩ | ⟨h1, r, h2⟩ | ⟨h1, r, h2, h3⟩ | ⟨h1, r, h2⟩
  · simp only at h2
    subst h2
    rw [h1] at hd hret
    exact W.vret hx hb hret (fun t ht hW => ⟨rfl, by rw [ht]; exact hR, hS.F ht⟩) hS.2.2 hd hlk
  · simp only at h2
    subst h2
    rw [h1] at hd hret
    exact W.iret hx hb hret (fun t ht hW => ⟨rfl, by rw [ht]; exact hR, hS.F ht⟩) hS.2.2 hd hlk
  · simp only at h2
    subst h2
    rw [h1] at hd hret
    exact W.zret hx hb hret h3 (fun t ht hW => ⟨rfl, by rw [ht]; exact hR, hS.F ht⟩) hS.2.2 hd hlk
  · simp only at h2
    subst h2
    rw [h1] at hd hret
    exact W.lret hx hb hret (fun t ht hW => ⟨rfl, by rw [ht]; exact hR, hS.F ht⟩) hS.2.2 hd hlk
/-- a contract out of the walk of the body -/
theorem xCon.mk (hy : plainName Y.1.cls = true) (hle : xle T o.2.1) (hxl : xent av Y.2.2.1 = xl) (hlen : (lg_sl av).length ≤ Y.2.2.1) (hxn : xl.length = Y.2.2.1) (hok : xRok Y o) (h : xV G Y T o 0 xl [] T R L I) : xCon G Y av T R L I o := by
  refine ⟨hle, fun l => ?_⟩
  refine Met.ofW (cc := Y.2.1) (maxL := Y.2.2.1) (ret := Y.2.2.2.1) hy rfl ?_
  intro p e s m args below meth c s₁ B hml hv
  obtain ⟨rfl, hsz, hC, hR⟩ := hv
  have hts := atoms_spec (ws := xws Y) B.pre
  have hl := lv_entry av hlen
  rw [lg_entry_eq]
  generalize (lg_sl av ++ List.replicate (Y.2.2.1 - (lg_sl av).length) Slot.unset).toArray = ls at hl ⊢
  have hl : lv_has ls Y.2.2.1 (xe 0 xl) := by
    rw [← hxl]
    unfold xent
    rw [xe_ent]
    exact hl
  have key := h p l e (headSpec (xws Y) { frames := Y.2.2.2.2.1, cells := o.2.1.length - T.length, slots := xZ o.2.1 - xZ T, locals := Y.2.2.2.2.2 }).room s m av.toArray below meth c s.heap [] _ ls
    ⟨B.exec, B.bytes, hml, findClass_of_methodNamed B.named, fun w hw => hts w (List.mem_cons_of_mem _ hw), fun q => (name_of_methodNamed B.named B.method).1.trans q, hsz, hC⟩ ⟨rfl, rfl, Nat.le_refl _, Nat.le_refl _⟩ hl hxn hR va_S.rf
    (xend B.exec B.bytes B.returns B.notSynchronized hok)
  rw [Nat.sub_self, Nat.sub_self] at key
  exact key
end XC
end
section
/-! NEW CELLS; THE SAME MEMORY IN OTHER WORDS; THE LAW'S OWN FRAME -/
def xCN (own : String) (idx ci : Nat) : Prop := ci < 4 ∧ Cond.classLink own idx (xcn ci) ∈ xW ∧ Cond.instantiable (xcn ci) (xnf ci) ∈ xW ∧ Cond.initialized (xcn ci) ∈ xW
theorem xdef0 : ∀ k, k < 12 → defaultValue (tyX0 k) = xfv 0 k (fun _ => none) (fun _ => 0) (fun _ => 0) := by decide +kernel
theorem xdef1 : ∀ k, k < 4 → defaultValue (tyX1 k) = xfv 1 k (fun _ => none) (fun _ => 0) (fun _ => 0) := by decide +kernel
theorem xdef2 : ∀ k, k < 14 → defaultValue (tyX2 k) = xfv 2 k (fun _ => none) (fun _ => 0) (fun _ => 0) := by decide +kernel
theorem xdef3 : ∀ k, k < 24 → defaultValue (tyX3 k) = xfv 3 k (fun _ => none) (fun _ => 0) (fun _ => 0) := by decide +kernel
theorem xdef {ci k : Nat} (h : ci < 4) (hk : k < xnf ci) : defaultValue (xcy ci k) = xfv ci k (fun _ => none) (fun _ => 0) (fun _ => 0) := by
  match ci, h with
  | 0, _ => exact xdef0 k hk
  | 1, _ => exact xdef1 k hk
  | 2, _ => exact xdef2 k hk
  | 3, _ => exact xdef3 k hk
section XN
variable {G : xG} {Y : xY} {Tb : xT} {o : xO} {pc pc' idx : Nat} {xl : List (Option Value)} {st : List Value} {T : xT} {R : xR} {L : xL} {I : xI}
theorem xSh_old {t : Nat × Nat} {a : Nat} (h : a < G.2.2.1 + T.length) : xSh G (T ++ [t]) a = xSh G T a := by
  unfold xSh
  split
  · rfl
  · rw [List.getElem?_append_left (by omega)]
theorem xSh_new {t : Nat × Nat} : xSh G (T ++ [t]) (G.2.2.1 + T.length) = t := by
  unfold xSh
  rw [if_neg (by omega), show G.2.2.1 + T.length - G.2.2.1 = T.length by omega, List.getElem?_append_right (Nat.le_refl _), Nat.sub_self]
  rfl
theorem xRp_push {t : Nat × Nat} {H H1 : Heap} (hR : xRp G T R L I H) (z1 : H1.size = G.2.2.1 + T.length + 1) (o1 : ∀ q, q < G.2.2.1 + T.length → H1[q]? = H[q]?)
    (hn : va_at G.1 vwCl (G.2.2.1 + T.length, xmk G.2.1 t (R (G.2.2.1 + T.length)) (L (G.2.2.1 + T.length)) (I (G.2.2.1 + T.length))) H1) : xRp G (T ++ [t]) R L I H1 := by
  refine ⟨by rw [List.length_append, z1]; exact Nat.le_refl _, xP_iff.mpr (fun a ha => ?_)⟩
  obtain ⟨h1, h2⟩ := List.mem_range'_1.mp ha
  rw [List.length_append] at h2
  by_cases hl : a < G.2.2.1 + T.length
  · have h := xP_iff.mp hR.2 a (List.mem_range'_1.mpr ⟨h1, hl⟩)
    unfold xE at h ⊢
    rw [xSh_old hl]
    exact h.kept (o1 a hl)
  · have e : a = G.2.2.1 + T.length := by simp at h2; omega
    subst e
    unfold xE
    rw [xSh_new]
    exact hn
theorem xS_push {A : Nat → Prop} {H0 H H1 : Heap} {locs : List Loc} {h : Nat} (hS : va_S A H0 H locs) (z : H.size = h) (z1 : H1.size = h + 1) (o1 : ∀ q, q < h → H1[q]? = H[q]?) : va_S A H0 H1 locs :=
  ⟨Nat.le_trans hS.1 (by omega), fun x h1 h2 => (o1 x (by have := hS.1; omega)).trans (hS.2.1 x h1 h2), hS.2.2⟩
theorem xroom1 {t : Nat × Nat} (h1 : xle Tb T) (h3 : xle (T ++ [t]) o.2.1) {Rm : Room} (hc : o.2.1.length - Tb.length ≤ Rm.cells) (hs : xZ o.2.1 - xZ Tb ≤ Rm.slots) :
    T.length - Tb.length + 1 ≤ Rm.cells ∧ xZ T - xZ Tb + xsz t ≤ Rm.slots ∧ T.length - Tb.length + 1 = (T ++ [t]).length - Tb.length ∧ xZ T - xZ Tb + xsz t = xZ (T ++ [t]) - xZ Tb := by
  have e : xZ (T ++ [t]) = xZ T + xsz t := by simp [xZ]
  obtain ⟨a1, b1⟩ := h1
  obtain ⟨a3, b3⟩ := h3
  rw [e] at b3 ⊢
  rw [List.length_append] at a3 ⊢
  simp only [List.length_cons, List.length_nil] at a3 ⊢
  exact ⟨by omega, by omega, by omega, by omega⟩
theorem xV_new {ci a : Nat} (hd : decode Y.2.1 pc = .ok (.new idx, 3) ∧ pc + 3 = pc') (hc : xCN Y.1.cls idx ci) (ha : a = G.2.2.1 + T.length) (hz : ∀ k, R a k = none ∧ L a k = 0 ∧ I a k = 0) (h1 : xle Tb T) (h3 : xle (T ++ [(ci, 0)]) o.2.1)
    (k : xV G Y Tb o pc' xl (.ref a :: st) (T ++ [(ci, 0)]) R L I) : xV G Y Tb o pc xl st T R L I := by
  obtain ⟨hd, rfl⟩ := hd
  subst ha
  intro p l e Rm s m args below meth c H locs Q ls hF hRm hl hln hR hS hE
  obtain ⟨h4, hcl, hins, hini⟩ := hc
  obtain ⟨r1, r2, r3, r4⟩ := xroom1 h1 h3 hRm.2.2.1 hRm.2.2.2
  have hsz : xsz (ci, 0) = xnf ci := by simp [xsz, h4]
  rw [hsz] at r2 r4
  refine xW_size (fun hz2 => ?_)
  have hz2 : H.size = G.2.2.1 + T.length := by have := hR.1; have := hF.2.2.2.2.2.2.1; have := h1.1; omega
  have hts := hF.2.2.2.2.1
  have hK := hF.2.2.2.2.2.2.2.2.1
  have hKn := hK.1 ci _ (xcl h4)
  refine W.newcK hF.1 hF.2.1 hF.2.2.2.1 (hts _ hcl) (hts _ hins) (hts _ hini) rfl hd r1 r2 hKn.2.1 hz2 fun H1 kC hkC e1 z1 o1 => ?_
  have kk := k p l e Rm s m args below meth c H1 locs Q ls hF hRm hl hln (xRp_push hR z1 o1 ?_) (xS_push hS hz2 z1 o1) hE
  · rw [r3, r4]
    exact kk
  · rw [xmk_obj rfl h4]
    refine ⟨_, xcl h4, (u_born (xcy ci) hts (xin h4) hKn hkC e1 (xcy_ok h4)).to (fun j hj => ?_)⟩
    rw [xdef h4 hj]
    unfold vp_V
    rw [List.getD_eq_getElem?_getD, xfs_at hj]
    obtain ⟨q1, q2, q3⟩ := hz j
    simp [xfv, q1, q2, q3]
theorem xcI {s : State} {cA : ClassId} (hC : xCx G s) (h : s.vm.findClass ("[" ++ (newarray.typeOf .int).toString) = some cA) : cA = G.2.1.1 := by
  have h1 := (hC.2.1.2 0 (G.2.1.1, .int) rfl).2
  exact Option.some.inj (h.symm.trans h1)
theorem xcZ {s : State} {cA : ClassId} (hC : xCx G s) (h : s.vm.findClass ("[" ++ (newarray.typeOf .boolean).toString) = some cA) : cA = G.2.1.2.1 := by
  have h1 := (hC.2.1.2 1 (G.2.1.2.1, .boolean) rfl).2
  exact Option.some.inj (h.symm.trans h1)
theorem xcQ {s : State} {cA : ClassId} (hC : xCx G s) (h : s.vm.findClass ("[" ++ (FieldType.object RX0).toString) = some cA) : cA = G.2.1.2.2 := by
  obtain ⟨kA, comp, -, -, -, h1⟩ := (hC.2.1.2 2 (G.2.1.2.2, .object RX0) rfl).2
  exact Option.some.inj (h.symm.trans h1)
theorem xV_newI {a n : Nat} {v : Int32} (hd : decode Y.2.1 pc = .ok (.newarray .int, 2) ∧ pc + 2 = pc') (hw : Cond.arrayClass .int ∈ xW) (hv : v = nI n) (hn : n < 100000) (ha : a = G.2.2.1 + T.length) (hz : ∀ k, I a k = 0) (h1 : xle Tb T) (h3 : xle (T ++ [(4, n)]) o.2.1)
    (k : xV G Y Tb o pc' xl (.ref a :: st) (T ++ [(4, n)]) R L I) : xV G Y Tb o pc xl (.int v :: st) T R L I := by
  obtain ⟨hd, rfl⟩ := hd
  subst ha
  subst hv
  intro p l e Rm s m args below meth c H locs Q ls hF hRm hl hln hR hS hE
  obtain ⟨r1, r2, r3, r4⟩ := xroom1 h1 h3 hRm.2.2.1 hRm.2.2.2
  have hsz : xsz (4, n) = n := by simp [xsz]
  rw [hsz] at r2 r4
  refine xW_size (fun hz2 => ?_)
  have hz2 : H.size = G.2.2.1 + T.length := by have := hR.1; have := hF.2.2.2.2.2.2.1; have := h1.1; omega
  refine va_newaK (atype := .int) hF.1 hF.2.1 (hF.2.2.2.2.1 _ hw) rfl hd rfl (nI_pos (by omega)) (nI_clamp (by omega)) (by show n * 4 ≤ _; omega) r1 r2 hz2 fun H1 cA e1 z1 o1 hAr hNm => ?_
  have hcA := xcI hF.2.2.2.2.2.2.2 hNm
  subst hcA
  have kk := k p l e Rm s m args below meth c H1 locs Q ls hF hRm hl hln (xRp_push hR z1 o1 ?_) (xS_push hS hz2 z1 o1) hE
  · rw [r3, r4]
    exact kk
  · show H1[G.2.2.1 + T.length]? = some (vp_cell _ _)
    rw [e1]
    show _ = some (arrV _ n (fun j => .int (I _ j)))
    rw [show (fun j => Value.int (I (G.2.2.1 + T.length) j)) = (fun _ => defaultValue (newarray.typeOf .int)) from funext fun j => by rw [hz]; rfl]
theorem xV_newZ {a n : Nat} {v : Int32} (hd : decode Y.2.1 pc = .ok (.newarray .boolean, 2) ∧ pc + 2 = pc') (hw : Cond.arrayClass .boolean ∈ xW) (hv : v = nI n) (hn : n < 100000) (ha : a = G.2.2.1 + T.length) (hz : ∀ k, I a k = 0) (h1 : xle Tb T) (h3 : xle (T ++ [(5, n)]) o.2.1)
    (k : xV G Y Tb o pc' xl (.ref a :: st) (T ++ [(5, n)]) R L I) : xV G Y Tb o pc xl (.int v :: st) T R L I := by
  obtain ⟨hd, rfl⟩ := hd
  subst ha
  subst hv
  intro p l e Rm s m args below meth c H locs Q ls hF hRm hl hln hR hS hE
  obtain ⟨r1, r2, r3, r4⟩ := xroom1 h1 h3 hRm.2.2.1 hRm.2.2.2
  have hsz : xsz (5, n) = n := by simp [xsz]
  rw [hsz] at r2 r4
  refine xW_size (fun hz2 => ?_)
  have hz2 : H.size = G.2.2.1 + T.length := by have := hR.1; have := hF.2.2.2.2.2.2.1; have := h1.1; omega
  refine va_newaK (atype := .boolean) hF.1 hF.2.1 (hF.2.2.2.2.1 _ hw) rfl hd rfl (nI_pos (by omega)) (nI_clamp (by omega)) (by show n * 1 ≤ _; omega) r1 r2 hz2 fun H1 cA e1 z1 o1 hAr hNm => ?_
  have hcA := xcZ hF.2.2.2.2.2.2.2 hNm
  subst hcA
  have kk := k p l e Rm s m args below meth c H1 locs Q ls hF hRm hl hln (xRp_push hR z1 o1 ?_) (xS_push hS hz2 z1 o1) hE
  · rw [r3, r4]
    exact kk
  · show H1[G.2.2.1 + T.length]? = some (vp_cell _ _)
    rw [e1]
    show _ = some (arrV _ n (fun j => .int (I _ j)))
    rw [show (fun j => Value.int (I (G.2.2.1 + T.length) j)) = (fun _ => defaultValue (newarray.typeOf .boolean)) from funext fun j => by rw [hz]; rfl]
theorem xV_newQ {a n : Nat} {v : Int32} (hd : decode Y.2.1 pc = .ok (.anewarray idx, 3) ∧ pc + 3 = pc') (hw : Cond.classLink Y.1.cls idx RX0 ∈ xW) (hv : v = nI n) (hn : n < 100000) (ha : a = G.2.2.1 + T.length) (hz : ∀ k, R a k = none) (h1 : xle Tb T) (h3 : xle (T ++ [(6, n)]) o.2.1)
    (k : xV G Y Tb o pc' xl (.ref a :: st) (T ++ [(6, n)]) R L I) : xV G Y Tb o pc xl (.int v :: st) T R L I := by
  obtain ⟨hd, rfl⟩ := hd
  subst ha
  subst hv
  intro p l e Rm s m args below meth c H locs Q ls hF hRm hl hln hR hS hE
  obtain ⟨r1, r2, r3, r4⟩ := xroom1 h1 h3 hRm.2.2.1 hRm.2.2.2
  have hsz : xsz (6, n) = n := by simp [xsz]
  rw [hsz] at r2 r4
  refine xW_size (fun hz2 => ?_)
  have hz2 : H.size = G.2.2.1 + T.length := by have := hR.1; have := hF.2.2.2.2.2.2.1; have := h1.1; omega
  have hcl : (nI n).toNatClampNeg = n := nI_clamp (by omega)
  refine W.anew hF.1 hF.2.1 hF.2.2.2.1 (hF.2.2.2.2.1 _ hw) (va_AO.use hF.2.2.2.2.2.2.2.2.2.2.2.2.2) rfl hd rfl (nI_pos (by omega)) (by rw [hcl]; omega) r1 (by rw [hcl]; exact r2) fun cA kA comp f1 f2 f3 f4 => ?_
  have hcA := xcQ hF.2.2.2.2.2.2.2 f1
  subst hcA
  rw [hcl]
  generalize hH1 : H.push ({ cls := G.2.1.2.2, slots := Array.replicate n .null, vm := .none } : Cell) = H1
  have z1 : H1.size = G.2.2.1 + T.length + 1 := by rw [← hH1, Array.size_push, hz2]
  have e1 : H1[G.2.2.1 + T.length]? = some (arrV G.2.1.2.2 n (fun _ => .null)) := by rw [← hH1, ← hz2, Array.getElem?_push_size, ← arrV_new]
  have o1 : ∀ q : Nat, q < G.2.2.1 + T.length → H1[q]? = H[q]? := fun q hq => by rw [← hH1, Array.getElem?_push, if_neg (by omega)]
  have kk := k p l e Rm s m args below meth c H1 locs Q ls hF hRm hl hln (xRp_push hR z1 o1 ?_) (xS_push hS hz2 z1 o1) hE
  · rw [r3, r4, hz2]
    exact kk
  · show H1[G.2.2.1 + T.length]? = some (vp_cell _ _)
    rw [e1]
    show _ = some (arrV _ n (fun j => va_rf (R _ j)))
    rw [show (fun j => va_rf (R (G.2.2.1 + T.length) j)) = (fun _ => Value.null) from funext fun j => by rw [hz]; rfl]
/-- which ints of a cell are there at all -/
def xvl (G : xG) (T : xT) (a k : Nat) : Prop := ((xSh G T a).1 < 4 ∧ k < xnf (xSh G T a).1 ∧ xfk (xSh G T a).1 k = 0) ∨ (((xSh G T a).1 = 4 ∨ (xSh G T a).1 = 5) ∧ k < (xSh G T a).2)
theorem arrV_cong {cA : ClassId} {n : Nat} {f g : Nat → Value} (h : ∀ k, k < n → f k = g k) : arrV cA n f = arrV cA n g := by
  unfold arrV
  congr 1
  apply Array.ext
  · simp
  · intro i h1 h2
    simp only [Array.getElem_ofFn]
    exact h i (by simpa using h1)
theorem xRp_congI {I' : xI} {H : Heap} (h : ∀ a k, xvl G T a k → I a k = I' a k) (hR : xRp G T R L I H) : xRp G T R L I' H := by
  refine ⟨hR.1, xP_iff.mpr (fun a ha => ?_)⟩
  have q := xP_iff.mp hR.2 a ha
  have ha' := h a
  unfold xE at q ⊢
  unfold xvl at ha'
  generalize xSh G T a = t at q ha' ⊢
  obtain ⟨t1, t2⟩ := t
  by_cases h4 : t1 < 4
  · rw [xmk_obj rfl h4] at q ⊢
    refine (congrArg (fun x => va_at G.1 vwCl (a, .inr (t1, x)) H) (List.map_congr_left (fun k hk => ?_))).mp q
    have hk := List.mem_range.mp hk
    unfold xfv
    split
    · rename_i hkd
      rw [ha' k (Or.inl ⟨h4, hk, hkd⟩)]
    · rfl
    · rfl
  · match t1, h4 with
    | 4, _ =>
      have q : H[a]? = some (arrV G.2.1.1 t2 (fun j => .int (I a j))) := q
      show H[a]? = some (arrV G.2.1.1 t2 (fun j => .int (I' a j)))
      rw [q, arrV_cong (fun k hk => by rw [ha' k (Or.inr ⟨Or.inl rfl, hk⟩)])]
    | 5, _ =>
      have q : H[a]? = some (arrV G.2.1.2.1 t2 (fun j => .int (I a j))) := q
      show H[a]? = some (arrV G.2.1.2.1 t2 (fun j => .int (I' a j)))
      rw [q, arrV_cong (fun k hk => by rw [ha' k (Or.inr ⟨Or.inr rfl, hk⟩)])]
    | 6, _ => exact q
    | n + 7, _ => rw [xmk_hi] at q ⊢; exact q
theorem xV_congI {I' : xI} (h : ∀ a k, xvl G T a k → I a k = I' a k) (k : xV G Y Tb o pc xl st T R L I') : xV G Y Tb o pc xl st T R L I :=
  fun p l e Rm s m args below meth c H locs Q ls hF hRm hl hln hR hS hE => k p l e Rm s m args below meth c H locs Q ls hF hRm hl hln (xRp_congI h hR) hS hE
end XN
end
