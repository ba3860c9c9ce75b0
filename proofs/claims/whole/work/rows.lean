section
-- ===== PART A: goes FIRST, ahead of the names: the tables' words, and 'selects' of the private methods out of them =====
/-- a private method of a class that the tables say can be made, by its rows of tables_1 -/
def lw_okq (q : MethodName × Nat) : Prop := (q.1.cls ≠ "java/lang/invoke/MethodHandle" ∧ q.1.cls ≠ "java/lang/invoke/VarHandle") ∧ Cond.instantiable q.1.cls q.2 ∈ tables_1 ∧ Cond.privateMethod q.1 ∈ tables_1 ∧ Cond.instanceMethod q.1 ∈ tables_1
theorem lw_p0 : lw_okq (⟨"PoliteGatherer$Web", "isTaken", "(II)Z"⟩, 4) := ⟨⟨by decide +kernel, by decide +kernel⟩, List.mem_of_getElem? (i := 21) (by decide +kernel), List.mem_of_getElem? (i := 214) (by decide +kernel), List.mem_of_getElem? (i := 215) (by decide +kernel)⟩
theorem lw_p1 : lw_okq (⟨"PoliteGatherer", "canChange", "(I)Z"⟩, 4) := ⟨⟨by decide +kernel, by decide +kernel⟩, List.mem_of_getElem? (i := 13) (by decide +kernel), List.mem_of_getElem? (i := 262) (by decide +kernel), List.mem_of_getElem? (i := 263) (by decide +kernel)⟩
theorem lw_p2 : lw_okq (⟨"PoliteGatherer$Gathering", "setAllFrom", "(I)V"⟩, 17) := ⟨⟨by decide +kernel, by decide +kernel⟩, List.mem_of_getElem? (i := 84) (by decide +kernel), List.mem_of_getElem? (i := 319) (by decide +kernel), List.mem_of_getElem? (i := 320) (by decide +kernel)⟩
theorem lw_p3 : lw_okq (⟨"PoliteGatherer$Gathering", "enqueueAll", "(LPoliteGatherer$Row;I)V"⟩, 17) := ⟨⟨by decide +kernel, by decide +kernel⟩, List.mem_of_getElem? (i := 84) (by decide +kernel), List.mem_of_getElem? (i := 323) (by decide +kernel), List.mem_of_getElem? (i := 324) (by decide +kernel)⟩
theorem lw_p4 : lw_okq (⟨"PoliteGatherer$Gathering", "setMark", "()V"⟩, 17) := ⟨⟨by decide +kernel, by decide +kernel⟩, List.mem_of_getElem? (i := 84) (by decide +kernel), List.mem_of_getElem? (i := 336) (by decide +kernel), List.mem_of_getElem? (i := 337) (by decide +kernel)⟩
theorem lw_p5 : lw_okq (⟨"PoliteGatherer$Gathering", "fetch", "(I)V"⟩, 17) := ⟨⟨by decide +kernel, by decide +kernel⟩, List.mem_of_getElem? (i := 84) (by decide +kernel), List.mem_of_getElem? (i := 371) (by decide +kernel), List.mem_of_getElem? (i := 372) (by decide +kernel)⟩
theorem lw_p6 : lw_okq (⟨"PoliteGatherer$Ranking", "listDocuments", "()V"⟩, 8) := ⟨⟨by decide +kernel, by decide +kernel⟩, List.mem_of_getElem? (i := 148) (by decide +kernel), List.mem_of_getElem? (i := 442) (by decide +kernel), List.mem_of_getElem? (i := 443) (by decide +kernel)⟩
theorem lw_p7 : lw_okq (⟨"PoliteGatherer$Ranking", "followLinks", "(I)V"⟩, 8) := ⟨⟨by decide +kernel, by decide +kernel⟩, List.mem_of_getElem? (i := 148) (by decide +kernel), List.mem_of_getElem? (i := 450) (by decide +kernel), List.mem_of_getElem? (i := 451) (by decide +kernel)⟩
theorem lw_p8 : lw_okq (⟨"PoliteGatherer$Ranking", "playRound", "()V"⟩, 8) := ⟨⟨by decide +kernel, by decide +kernel⟩, List.mem_of_getElem? (i := 148) (by decide +kernel), List.mem_of_getElem? (i := 455) (by decide +kernel), List.mem_of_getElem? (i := 456) (by decide +kernel)⟩
theorem lw_p9 : lw_okq (⟨"PoliteGatherer$Ranking", "passOn", "(I)V"⟩, 8) := ⟨⟨by decide +kernel, by decide +kernel⟩, List.mem_of_getElem? (i := 148) (by decide +kernel), List.mem_of_getElem? (i := 459) (by decide +kernel), List.mem_of_getElem? (i := 460) (by decide +kernel)⟩
theorem lw_p10 : lw_okq (⟨"PoliteGatherer$Ranking", "placeOf", "(I)I"⟩, 8) := ⟨⟨by decide +kernel, by decide +kernel⟩, List.mem_of_getElem? (i := 148) (by decide +kernel), List.mem_of_getElem? (i := 483) (by decide +kernel), List.mem_of_getElem? (i := 484) (by decide +kernel)⟩
theorem lw_p11 : lw_okq (⟨"PoliteGatherer$Ranking", "standsBefore", "(II)Z"⟩, 8) := ⟨⟨by decide +kernel, by decide +kernel⟩, List.mem_of_getElem? (i := 148) (by decide +kernel), List.mem_of_getElem? (i := 487) (by decide +kernel), List.mem_of_getElem? (i := 488) (by decide +kernel)⟩
theorem lw_p12 : lw_okq (⟨"PoliteGathererModel", "isPage", "(I)Z"⟩, 37) := ⟨⟨by decide +kernel, by decide +kernel⟩, List.mem_of_getElem? (i := 495) (by decide +kernel), List.mem_of_getElem? (i := 622) (by decide +kernel), List.mem_of_getElem? (i := 623) (by decide +kernel)⟩
theorem lw_p13 : lw_okq (⟨"PoliteGathererModel", "taken", "(II)I"⟩, 37) := ⟨⟨by decide +kernel, by decide +kernel⟩, List.mem_of_getElem? (i := 495) (by decide +kernel), List.mem_of_getElem? (i := 650) (by decide +kernel), List.mem_of_getElem? (i := 651) (by decide +kernel)⟩
theorem lw_p14 : lw_okq (⟨"PoliteGathererModel", "queue", "(II)V"⟩, 37) := ⟨⟨by decide +kernel, by decide +kernel⟩, List.mem_of_getElem? (i := 495) (by decide +kernel), List.mem_of_getElem? (i := 658) (by decide +kernel), List.mem_of_getElem? (i := 659) (by decide +kernel)⟩
theorem lw_p15 : lw_okq (⟨"PoliteGathererModel", "mark", "()V"⟩, 37) := ⟨⟨by decide +kernel, by decide +kernel⟩, List.mem_of_getElem? (i := 495) (by decide +kernel), List.mem_of_getElem? (i := 662) (by decide +kernel), List.mem_of_getElem? (i := 663) (by decide +kernel)⟩
def lw_privs_1 : List (MethodName × Nat) := [(⟨"PoliteGatherer$Web", "isTaken", "(II)Z"⟩, 4), (⟨"PoliteGatherer", "canChange", "(I)Z"⟩, 4), (⟨"PoliteGatherer$Gathering", "setAllFrom", "(I)V"⟩, 17), (⟨"PoliteGatherer$Gathering", "enqueueAll", "(LPoliteGatherer$Row;I)V"⟩, 17), (⟨"PoliteGatherer$Gathering", "setMark", "()V"⟩, 17), (⟨"PoliteGatherer$Gathering", "fetch", "(I)V"⟩, 17), (⟨"PoliteGatherer$Ranking", "listDocuments", "()V"⟩, 8), (⟨"PoliteGatherer$Ranking", "followLinks", "(I)V"⟩, 8), (⟨"PoliteGatherer$Ranking", "playRound", "()V"⟩, 8), (⟨"PoliteGatherer$Ranking", "passOn", "(I)V"⟩, 8), (⟨"PoliteGatherer$Ranking", "placeOf", "(I)I"⟩, 8), (⟨"PoliteGatherer$Ranking", "standsBefore", "(II)Z"⟩, 8), (⟨"PoliteGathererModel", "isPage", "(I)Z"⟩, 37), (⟨"PoliteGathererModel", "taken", "(II)I"⟩, 37), (⟨"PoliteGathererModel", "queue", "(II)V"⟩, 37), (⟨"PoliteGathererModel", "mark", "()V"⟩, 37)]
theorem lw_r1 : ∀ q ∈ lw_privs_1, lw_okq q := List.forall_mem_cons.mpr ⟨lw_p0, List.forall_mem_cons.mpr ⟨lw_p1, List.forall_mem_cons.mpr ⟨lw_p2, List.forall_mem_cons.mpr ⟨lw_p3, List.forall_mem_cons.mpr ⟨lw_p4, List.forall_mem_cons.mpr ⟨lw_p5, List.forall_mem_cons.mpr ⟨lw_p6, List.forall_mem_cons.mpr ⟨lw_p7, List.forall_mem_cons.mpr ⟨lw_p8, List.forall_mem_cons.mpr ⟨lw_p9, List.forall_mem_cons.mpr ⟨lw_p10, List.forall_mem_cons.mpr ⟨lw_p11, List.forall_mem_cons.mpr ⟨lw_p12, List.forall_mem_cons.mpr ⟨lw_p13, List.forall_mem_cons.mpr ⟨lw_p14, List.forall_mem_cons.mpr ⟨lw_p15, fun _ h => absurd h List.not_mem_nil⟩⟩⟩⟩⟩⟩⟩⟩⟩⟩⟩⟩⟩⟩⟩⟩
theorem lw_p16 : lw_okq (⟨"PoliteGathererModel", "handle", "()V"⟩, 37) := ⟨⟨by decide +kernel, by decide +kernel⟩, List.mem_of_getElem? (i := 495) (by decide +kernel), List.mem_of_getElem? (i := 674) (by decide +kernel), List.mem_of_getElem? (i := 675) (by decide +kernel)⟩
theorem lw_p17 : lw_okq (⟨"PoliteGathererModel", "chase", "(IZ)I"⟩, 37) := ⟨⟨by decide +kernel, by decide +kernel⟩, List.mem_of_getElem? (i := 495) (by decide +kernel), List.mem_of_getElem? (i := 678) (by decide +kernel), List.mem_of_getElem? (i := 679) (by decide +kernel)⟩
theorem lw_p18 : lw_okq (⟨"PoliteGathererModel", "fetch", "(I)V"⟩, 37) := ⟨⟨by decide +kernel, by decide +kernel⟩, List.mem_of_getElem? (i := 495) (by decide +kernel), List.mem_of_getElem? (i := 683) (by decide +kernel), List.mem_of_getElem? (i := 684) (by decide +kernel)⟩
theorem lw_p19 : lw_okq (⟨"PoliteGathererModel", "isFetched", "(I)Z"⟩, 37) := ⟨⟨by decide +kernel, by decide +kernel⟩, List.mem_of_getElem? (i := 495) (by decide +kernel), List.mem_of_getElem? (i := 687) (by decide +kernel), List.mem_of_getElem? (i := 688) (by decide +kernel)⟩
theorem lw_p20 : lw_okq (⟨"PoliteGathererModel", "placeInCorpus", "(I)I"⟩, 37) := ⟨⟨by decide +kernel, by decide +kernel⟩, List.mem_of_getElem? (i := 495) (by decide +kernel), List.mem_of_getElem? (i := 691) (by decide +kernel), List.mem_of_getElem? (i := 692) (by decide +kernel)⟩
theorem lw_p21 : lw_okq (⟨"PoliteGathererModel", "sameBody", "(II)Z"⟩, 37) := ⟨⟨by decide +kernel, by decide +kernel⟩, List.mem_of_getElem? (i := 495) (by decide +kernel), List.mem_of_getElem? (i := 723) (by decide +kernel), List.mem_of_getElem? (i := 724) (by decide +kernel)⟩
theorem lw_p22 : lw_okq (⟨"PoliteGathererModel", "isDocument", "(I)Z"⟩, 37) := ⟨⟨by decide +kernel, by decide +kernel⟩, List.mem_of_getElem? (i := 495) (by decide +kernel), List.mem_of_getElem? (i := 731) (by decide +kernel), List.mem_of_getElem? (i := 732) (by decide +kernel)⟩
theorem lw_p23 : lw_okq (⟨"PoliteGathererModel", "rankAll", "(I)V"⟩, 37) := ⟨⟨by decide +kernel, by decide +kernel⟩, List.mem_of_getElem? (i := 495) (by decide +kernel), List.mem_of_getElem? (i := 736) (by decide +kernel), List.mem_of_getElem? (i := 737) (by decide +kernel)⟩
theorem lw_p24 : lw_okq (⟨"PoliteGathererModel", "sum", "(I)J"⟩, 37) := ⟨⟨by decide +kernel, by decide +kernel⟩, List.mem_of_getElem? (i := 495) (by decide +kernel), List.mem_of_getElem? (i := 743) (by decide +kernel), List.mem_of_getElem? (i := 744) (by decide +kernel)⟩
theorem lw_p25 : lw_okq (⟨"PoliteGathererModel", "score", "(III)J"⟩, 37) := ⟨⟨by decide +kernel, by decide +kernel⟩, List.mem_of_getElem? (i := 495) (by decide +kernel), List.mem_of_getElem? (i := 752) (by decide +kernel), List.mem_of_getElem? (i := 753) (by decide +kernel)⟩
theorem lw_p26 : lw_okq (⟨"PoliteGathererModel", "comesBefore", "(IIII)Z"⟩, 37) := ⟨⟨by decide +kernel, by decide +kernel⟩, List.mem_of_getElem? (i := 495) (by decide +kernel), List.mem_of_getElem? (i := 756) (by decide +kernel), List.mem_of_getElem? (i := 757) (by decide +kernel)⟩
def lw_privs_2 : List (MethodName × Nat) := [(⟨"PoliteGathererModel", "handle", "()V"⟩, 37), (⟨"PoliteGathererModel", "chase", "(IZ)I"⟩, 37), (⟨"PoliteGathererModel", "fetch", "(I)V"⟩, 37), (⟨"PoliteGathererModel", "isFetched", "(I)Z"⟩, 37), (⟨"PoliteGathererModel", "placeInCorpus", "(I)I"⟩, 37), (⟨"PoliteGathererModel", "sameBody", "(II)Z"⟩, 37), (⟨"PoliteGathererModel", "isDocument", "(I)Z"⟩, 37), (⟨"PoliteGathererModel", "rankAll", "(I)V"⟩, 37), (⟨"PoliteGathererModel", "sum", "(I)J"⟩, 37), (⟨"PoliteGathererModel", "score", "(III)J"⟩, 37), (⟨"PoliteGathererModel", "comesBefore", "(IIII)Z"⟩, 37)]
theorem lw_r2 : ∀ q ∈ lw_privs_2, lw_okq q := List.forall_mem_cons.mpr ⟨lw_p16, List.forall_mem_cons.mpr ⟨lw_p17, List.forall_mem_cons.mpr ⟨lw_p18, List.forall_mem_cons.mpr ⟨lw_p19, List.forall_mem_cons.mpr ⟨lw_p20, List.forall_mem_cons.mpr ⟨lw_p21, List.forall_mem_cons.mpr ⟨lw_p22, List.forall_mem_cons.mpr ⟨lw_p23, List.forall_mem_cons.mpr ⟨lw_p24, List.forall_mem_cons.mpr ⟨lw_p25, List.forall_mem_cons.mpr ⟨lw_p26, fun _ h => absurd h List.not_mem_nil⟩⟩⟩⟩⟩⟩⟩⟩⟩⟩⟩
def lw_privs : List (MethodName × Nat) := lw_privs_1 ++ (lw_privs_2)
def lw_tbl : List Cond := k2_sels lw_privs ++ tables_1
theorem lw_privs_ok : ∀ q ∈ lw_privs, lw_okq q := by
  show ∀ q ∈ lw_privs_1 ++ (lw_privs_2), lw_okq q
  exact List.forall_mem_append.mpr ⟨lw_r1, lw_r2⟩
end
section
/-! Names: classes, field tables, methods. -/
def R_PG : String := "PoliteGatherer"
def F_PG : u_T := fun k => match k with
  | 0 => ("PoliteGatherer", "web", "LPoliteGatherer$Web;", true)
  | 1 => ("PoliteGatherer", "gathering", "LPoliteGatherer$Gathering;", true)
  | 2 => ("PoliteGatherer", "ranking", "LPoliteGatherer$Ranking;", true)
  | _ => ("PoliteGatherer", "underWay", "Z", false)
def t_PG : Nat → FieldType := fun k => match k with
  | 0 => .object "PoliteGatherer$Web"
  | 1 => .object "PoliteGatherer$Gathering"
  | 2 => .object "PoliteGatherer$Ranking"
  | _ => .boolean
theorem n_PG : ∀ a, a < 4 → ∀ b, b < 4 → a ≠ b → (F_PG a).2.1 ≠ (F_PG b).2.1 := by decide +kernel
theorem t_PG_ok : ∀ k, k < 4 → parseFieldDescriptor (F_PG k).2.2.1 = some (t_PG k) := by decide +kernel
def R_Web : String := "PoliteGatherer$Web"
def F_Web : u_T := fun k => match k with
  | 0 => ("PoliteGatherer$Web", "pages", "[LPoliteGatherer$Page;", true)
  | 1 => ("PoliteGatherer$Web", "hosts", "[LPoliteGatherer$Host;", true)
  | 2 => ("PoliteGatherer$Web", "firsts", "LPoliteGatherer$Row;", true)
  | _ => ("PoliteGatherer$Web", "pageCount", "I", false)
def t_Web : Nat → FieldType := fun k => match k with
  | 0 => .array (.object "PoliteGatherer$Page")
  | 1 => .array (.object "PoliteGatherer$Host")
  | 2 => .object "PoliteGatherer$Row"
  | _ => .int
theorem n_Web : ∀ a, a < 4 → ∀ b, b < 4 → a ≠ b → (F_Web a).2.1 ≠ (F_Web b).2.1 := by decide +kernel
theorem t_Web_ok : ∀ k, k < 4 → parseFieldDescriptor (F_Web k).2.2.1 = some (t_Web k) := by decide +kernel
def R_Host : String := "PoliteGatherer$Host"
def F_Host : u_T := fun k => match k with
  | 0 => ("PoliteGatherer$Host", "prefixes", "[I", true)
  | 1 => ("PoliteGatherer$Host", "allowing", "[Z", true)
  | _ => ("PoliteGatherer$Host", "ruleCount", "I", false)
def t_Host : Nat → FieldType := fun k => match k with
  | 0 => .array .int
  | 1 => .array .boolean
  | _ => .int
theorem n_Host : ∀ a, a < 3 → ∀ b, b < 3 → a ≠ b → (F_Host a).2.1 ≠ (F_Host b).2.1 := by decide +kernel
theorem t_Host_ok : ∀ k, k < 3 → parseFieldDescriptor (F_Host k).2.2.1 = some (t_Host k) := by decide +kernel
def R_Row : String := "PoliteGatherer$Row"
def F_Row : u_T := fun k => match k with
  | 0 => ("PoliteGatherer$Row", "items", "[I", true)
  | _ => ("PoliteGatherer$Row", "size", "I", false)
def t_Row : Nat → FieldType := fun k => match k with
  | 0 => .array .int
  | _ => .int
theorem n_Row : ∀ a, a < 2 → ∀ b, b < 2 → a ≠ b → (F_Row a).2.1 ≠ (F_Row b).2.1 := by decide +kernel
theorem t_Row_ok : ∀ k, k < 2 → parseFieldDescriptor (F_Row k).2.2.1 = some (t_Row k) := by decide +kernel
def R_Page : String := "PoliteGatherer$Page"
def F_Page : u_T := fun k => match k with
  | 0 => ("PoliteGatherer$Page", "host", "I", true)
  | 1 => ("PoliteGatherer$Page", "path", "I", true)
  | 2 => ("PoliteGatherer$Page", "body", "LPoliteGatherer$Row;", true)
  | 3 => ("PoliteGatherer$Page", "links", "LPoliteGatherer$Row;", true)
  | 4 => ("PoliteGatherer$Page", "reply", "LPoliteGatherer$Reply;", false)
  | _ => ("PoliteGatherer$Page", "target", "I", false)
def t_Page : Nat → FieldType := fun k => match k with
  | 0 => .int
  | 1 => .int
  | 2 => .object "PoliteGatherer$Row"
  | 3 => .object "PoliteGatherer$Row"
  | 4 => .object "PoliteGatherer$Reply"
  | _ => .int
theorem n_Page : ∀ a, a < 6 → ∀ b, b < 6 → a ≠ b → (F_Page a).2.1 ≠ (F_Page b).2.1 := by decide +kernel
theorem t_Page_ok : ∀ k, k < 6 → parseFieldDescriptor (F_Page k).2.2.1 = some (t_Page k) := by decide +kernel
def R_Gat : String := "PoliteGatherer$Gathering"
def F_Gat : u_T := fun k => match k with
  | 0 => ("PoliteGatherer$Gathering", "web", "LPoliteGatherer$Web;", true)
  | 1 => ("PoliteGatherer$Gathering", "queued", "LPoliteGatherer$Row;", true)
  | 2 => ("PoliteGatherer$Gathering", "depths", "LPoliteGatherer$Row;", true)
  | 3 => ("PoliteGatherer$Gathering", "fetched", "LPoliteGatherer$Row;", true)
  | 4 => ("PoliteGatherer$Gathering", "corpus", "LPoliteGatherer$Row;", true)
  | 5 => ("PoliteGatherer$Gathering", "from", "[I", true)
  | 6 => ("PoliteGatherer$Gathering", "limit", "I", false)
  | 7 => ("PoliteGatherer$Gathering", "hops", "I", false)
  | 8 => ("PoliteGatherer$Gathering", "delay", "I", false)
  | 9 => ("PoliteGatherer$Gathering", "every", "I", false)
  | 10 => ("PoliteGatherer$Gathering", "handled", "I", false)
  | 11 => ("PoliteGatherer$Gathering", "now", "I", false)
  | 12 => ("PoliteGatherer$Gathering", "fetchCount", "I", false)
  | 13 => ("PoliteGatherer$Gathering", "handledAtMark", "I", false)
  | 14 => ("PoliteGatherer$Gathering", "queuedAtMark", "I", false)
  | 15 => ("PoliteGatherer$Gathering", "fetchedAtMark", "I", false)
  | _ => ("PoliteGatherer$Gathering", "corpusAtMark", "I", false)
def t_Gat : Nat → FieldType := fun k => match k with
  | 0 => .object "PoliteGatherer$Web"
  | 1 => .object "PoliteGatherer$Row"
  | 2 => .object "PoliteGatherer$Row"
  | 3 => .object "PoliteGatherer$Row"
  | 4 => .object "PoliteGatherer$Row"
  | 5 => .array .int
  | 6 => .int
  | 7 => .int
  | 8 => .int
  | 9 => .int
  | 10 => .int
  | 11 => .int
  | 12 => .int
  | 13 => .int
  | 14 => .int
  | 15 => .int
  | _ => .int
theorem n_Gat : ∀ a, a < 17 → ∀ b, b < 17 → a ≠ b → (F_Gat a).2.1 ≠ (F_Gat b).2.1 := by decide +kernel
theorem t_Gat_ok : ∀ k, k < 17 → parseFieldDescriptor (F_Gat k).2.2.1 = some (t_Gat k) := by decide +kernel
def R_Rank : String := "PoliteGatherer$Ranking"
def F_Rank : u_T := fun k => match k with
  | 0 => ("PoliteGatherer$Ranking", "web", "LPoliteGatherer$Web;", true)
  | 1 => ("PoliteGatherer$Ranking", "gathering", "LPoliteGatherer$Gathering;", true)
  | 2 => ("PoliteGatherer$Ranking", "documents", "LPoliteGatherer$Row;", true)
  | 3 => ("PoliteGatherer$Ranking", "leads", "[[I", true)
  | 4 => ("PoliteGatherer$Ranking", "leading", "[I", true)
  | 5 => ("PoliteGatherer$Ranking", "ranks", "[J", true)
  | 6 => ("PoliteGatherer$Ranking", "sums", "[J", true)
  | _ => ("PoliteGatherer$Ranking", "scores", "[J", true)
def t_Rank : Nat → FieldType := fun k => match k with
  | 0 => .object "PoliteGatherer$Web"
  | 1 => .object "PoliteGatherer$Gathering"
  | 2 => .object "PoliteGatherer$Row"
  | 3 => .array (.array .int)
  | 4 => .array .int
  | 5 => .array .long
  | 6 => .array .long
  | _ => .array .long
theorem n_Rank : ∀ a, a < 8 → ∀ b, b < 8 → a ≠ b → (F_Rank a).2.1 ≠ (F_Rank b).2.1 := by decide +kernel
theorem t_Rank_ok : ∀ k, k < 8 → parseFieldDescriptor (F_Rank k).2.2.1 = some (t_Rank k) := by decide +kernel
def R_Mod : String := "PoliteGathererModel"
def F_Mod : u_T := fun k => match k with
  | 0 => ("PoliteGathererModel", "pages", "I", false)
  | 1 => ("PoliteGathererModel", "host", "[I", true)
  | 2 => ("PoliteGathererModel", "path", "[I", true)
  | 3 => ("PoliteGathererModel", "reply", "[I", true)
  | 4 => ("PoliteGathererModel", "words", "[I", true)
  | 5 => ("PoliteGathererModel", "wordCount", "[I", true)
  | 6 => ("PoliteGathererModel", "goes", "[I", true)
  | 7 => ("PoliteGathererModel", "linkCount", "[I", true)
  | 8 => ("PoliteGathererModel", "prefixes", "[I", true)
  | 9 => ("PoliteGathererModel", "allowing", "[Z", true)
  | 10 => ("PoliteGathererModel", "ruleCount", "[I", true)
  | 11 => ("PoliteGathererModel", "starts", "[I", true)
  | 12 => ("PoliteGathererModel", "startCount", "I", false)
  | 13 => ("PoliteGathererModel", "on", "Z", false)
  | 14 => ("PoliteGathererModel", "limit", "I", false)
  | 15 => ("PoliteGathererModel", "hops", "I", false)
  | 16 => ("PoliteGathererModel", "delay", "I", false)
  | 17 => ("PoliteGathererModel", "every", "I", false)
  | 18 => ("PoliteGathererModel", "entryPage", "[I", true)
  | 19 => ("PoliteGathererModel", "entryDepth", "[I", true)
  | 20 => ("PoliteGathererModel", "head", "I", false)
  | 21 => ("PoliteGathererModel", "queued", "I", false)
  | 22 => ("PoliteGathererModel", "fetchedPages", "[I", true)
  | 23 => ("PoliteGathererModel", "fetched", "I", false)
  | 24 => ("PoliteGathererModel", "corpus", "[I", true)
  | 25 => ("PoliteGathererModel", "gathered", "I", false)
  | 26 => ("PoliteGathererModel", "now", "I", false)
  | 27 => ("PoliteGathererModel", "from", "[I", true)
  | 28 => ("PoliteGathererModel", "total", "I", false)
  | 29 => ("PoliteGathererModel", "markHead", "I", false)
  | 30 => ("PoliteGathererModel", "markQueued", "I", false)
  | 31 => ("PoliteGathererModel", "markFetched", "I", false)
  | 32 => ("PoliteGathererModel", "markGathered", "I", false)
  | 33 => ("PoliteGathererModel", "since", "I", false)
  | 34 => ("PoliteGathererModel", "leads", "[I", true)
  | 35 => ("PoliteGathererModel", "ranks", "[J", true)
  | _ => ("PoliteGathererModel", "before", "[J", true)
def t_Mod : Nat → FieldType := fun k => match k with
  | 0 => .int
  | 1 => .array .int
  | 2 => .array .int
  | 3 => .array .int
  | 4 => .array .int
  | 5 => .array .int
  | 6 => .array .int
  | 7 => .array .int
  | 8 => .array .int
  | 9 => .array .boolean
  | 10 => .array .int
  | 11 => .array .int
  | 12 => .int
  | 13 => .boolean
  | 14 => .int
  | 15 => .int
  | 16 => .int
  | 17 => .int
  | 18 => .array .int
  | 19 => .array .int
  | 20 => .int
  | 21 => .int
  | 22 => .array .int
  | 23 => .int
  | 24 => .array .int
  | 25 => .int
  | 26 => .int
  | 27 => .array .int
  | 28 => .int
  | 29 => .int
  | 30 => .int
  | 31 => .int
  | 32 => .int
  | 33 => .int
  | 34 => .array .int
  | 35 => .array .long
  | _ => .array .long
theorem n_Mod : ∀ a, a < 37 → ∀ b, b < 37 → a ≠ b → (F_Mod a).2.1 ≠ (F_Mod b).2.1 := by decide +kernel
theorem t_Mod_ok : ∀ k, k < 37 → parseFieldDescriptor (F_Mod k).2.2.1 = some (t_Mod k) := by decide +kernel
def R_Reply : String := "PoliteGatherer$Reply"
def gRd : String := "LPoliteGatherer$Reply;"
abbrev gcl : List vw_C := [(R_PG, F_PG, 4), (R_Web, F_Web, 4), (R_Host, F_Host, 3), (R_Row, F_Row, 2), (R_Page, F_Page, 6), (R_Gat, F_Gat, 17), (R_Rank, F_Rank, 8), (R_Mod, F_Mod, 37)]
abbrev b_PG_init : ByteArray := prog_1_method_1_code
def y_PG_init : MethodName := ⟨R_PG, "<init>", "()V"⟩
abbrev b_PG_page : ByteArray := prog_1_method_2_code
def y_PG_page : MethodName := ⟨R_PG, "page", "(II)I"⟩
abbrev b_PG_write : ByteArray := prog_1_method_3_code
def y_PG_write : MethodName := ⟨R_PG, "write", "(II)Z"⟩
abbrev b_PG_link : ByteArray := prog_1_method_4_code
def y_PG_link : MethodName := ⟨R_PG, "link", "(II)Z"⟩
abbrev b_PG_move : ByteArray := prog_1_method_5_code
def y_PG_move : MethodName := ⟨R_PG, "move", "(II)Z"⟩
abbrev b_PG_drop : ByteArray := prog_1_method_6_code
def y_PG_drop : MethodName := ⟨R_PG, "drop", "(I)Z"⟩
abbrev b_PG_rule : ByteArray := prog_1_method_7_code
def y_PG_rule : MethodName := ⟨R_PG, "rule", "(IIZ)Z"⟩
abbrev b_PG_first : ByteArray := prog_1_method_8_code
def y_PG_first : MethodName := ⟨R_PG, "first", "(I)Z"⟩
abbrev b_PG_begin : ByteArray := prog_1_method_9_code
def y_PG_begin : MethodName := ⟨R_PG, "begin", "(IIII)Z"⟩
abbrev b_PG_stop : ByteArray := prog_1_method_10_code
def y_PG_stop : MethodName := ⟨R_PG, "stop", "()Z"⟩
abbrev b_PG_work : ByteArray := prog_1_method_11_code
def y_PG_work : MethodName := ⟨R_PG, "work", "(I)I"⟩
abbrev b_PG_crash : ByteArray := prog_1_method_12_code
def y_PG_crash : MethodName := ⟨R_PG, "crash", "()I"⟩
abbrev b_PG_allowed : ByteArray := prog_1_method_13_code
def y_PG_allowed : MethodName := ⟨R_PG, "allowed", "(I)Z"⟩
abbrev b_PG_found : ByteArray := prog_1_method_14_code
def y_PG_found : MethodName := ⟨R_PG, "found", "(I)I"⟩
abbrev b_PG_clock : ByteArray := prog_1_method_15_code
def y_PG_clock : MethodName := ⟨R_PG, "clock", "()I"⟩
abbrev b_PG_fetches : ByteArray := prog_1_method_16_code
def y_PG_fetches : MethodName := ⟨R_PG, "fetches", "()I"⟩
abbrev b_PG_waiting : ByteArray := prog_1_method_17_code
def y_PG_waiting : MethodName := ⟨R_PG, "waiting", "()I"⟩
abbrev b_PG_corpusAt : ByteArray := prog_1_method_18_code
def y_PG_corpusAt : MethodName := ⟨R_PG, "corpusAt", "(I)I"⟩
abbrev b_PG_document : ByteArray := prog_1_method_19_code
def y_PG_document : MethodName := ⟨R_PG, "document", "(I)I"⟩
abbrev b_PG_rank : ByteArray := prog_1_method_20_code
def y_PG_rank : MethodName := ⟨R_PG, "rank", "(II)J"⟩
abbrev b_PG_best : ByteArray := prog_1_method_21_code
def y_PG_best : MethodName := ⟨R_PG, "best", "(III)I"⟩
abbrev b_PG_canChange : ByteArray := prog_1_method_22_code
def y_PG_canChange : MethodName := ⟨R_PG, "canChange", "(I)Z"⟩
abbrev b_PG_isWithin : ByteArray := prog_1_method_23_code
def y_PG_isWithin : MethodName := ⟨R_PG, "isWithin", "(III)Z"⟩
abbrev b_PG_isHost : ByteArray := prog_1_method_24_code
def y_PG_isHost : MethodName := ⟨R_PG, "isHost", "(I)Z"⟩
abbrev b_Web_init : ByteArray := prog_8_method_1_code
def y_Web_init : MethodName := ⟨R_Web, "<init>", "()V"⟩
abbrev b_Web_isPage : ByteArray := prog_8_method_2_code
def y_Web_isPage : MethodName := ⟨R_Web, "isPage", "(I)Z"⟩
abbrev b_Web_addPage : ByteArray := prog_8_method_3_code
def y_Web_addPage : MethodName := ⟨R_Web, "addPage", "(II)I"⟩
abbrev b_Web_isTaken : ByteArray := prog_8_method_4_code
def y_Web_isTaken : MethodName := ⟨R_Web, "isTaken", "(II)Z"⟩
abbrev b_Web_isAllowed : ByteArray := prog_8_method_5_code
def y_Web_isAllowed : MethodName := ⟨R_Web, "isAllowed", "(I)Z"⟩
abbrev b_Host_init : ByteArray := prog_3_method_1_code
def y_Host_init : MethodName := ⟨R_Host, "<init>", "()V"⟩
abbrev b_Host_addRule : ByteArray := prog_3_method_2_code
def y_Host_addRule : MethodName := ⟨R_Host, "addRule", "(IZ)Z"⟩
abbrev b_Host_allowsPath : ByteArray := prog_3_method_3_code
def y_Host_allowsPath : MethodName := ⟨R_Host, "allowsPath", "(I)Z"⟩
abbrev b_Host_isPrefix : ByteArray := prog_3_method_4_code
def y_Host_isPrefix : MethodName := ⟨R_Host, "isPrefix", "(II)Z"⟩
abbrev b_Row_init : ByteArray := prog_7_method_1_code
def y_Row_init : MethodName := ⟨R_Row, "<init>", "(I)V"⟩
abbrev b_Row_add : ByteArray := prog_7_method_2_code
def y_Row_add : MethodName := ⟨R_Row, "add", "(I)Z"⟩
abbrev b_Row_at : ByteArray := prog_7_method_3_code
def y_Row_at : MethodName := ⟨R_Row, "at", "(I)I"⟩
abbrev b_Row_holds : ByteArray := prog_7_method_4_code
def y_Row_holds : MethodName := ⟨R_Row, "holds", "(I)Z"⟩
abbrev b_Row_sameAs : ByteArray := prog_7_method_5_code
def y_Row_sameAs : MethodName := ⟨R_Row, "sameAs", "(LPoliteGatherer$Row;)Z"⟩
abbrev b_Row_cutTo : ByteArray := prog_7_method_6_code
def y_Row_cutTo : MethodName := ⟨R_Row, "cutTo", "(I)V"⟩
abbrev b_Page_init : ByteArray := prog_4_method_1_code
def y_Page_init : MethodName := ⟨R_Page, "<init>", "(II)V"⟩
abbrev b_Page_comesBefore : ByteArray := prog_4_method_2_code
def y_Page_comesBefore : MethodName := ⟨R_Page, "comesBefore", "(LPoliteGatherer$Page;)Z"⟩
abbrev b_Page_placesOf : ByteArray := prog_4_method_3_code
def y_Page_placesOf : MethodName := ⟨R_Page, "placesOf", "(II)I"⟩
abbrev b_Gat_init : ByteArray := prog_2_method_1_code
def y_Gat_init : MethodName := ⟨R_Gat, "<init>", "(LPoliteGatherer$Web;)V"⟩
abbrev b_Gat_startAnew : ByteArray := prog_2_method_2_code
def y_Gat_startAnew : MethodName := ⟨R_Gat, "startAnew", "(IIII)V"⟩
abbrev b_Gat_entriesLeft : ByteArray := prog_2_method_3_code
def y_Gat_entriesLeft : MethodName := ⟨R_Gat, "entriesLeft", "()I"⟩
abbrev b_Gat_handleEntry : ByteArray := prog_2_method_4_code
def y_Gat_handleEntry : MethodName := ⟨R_Gat, "handleEntry", "()V"⟩
abbrev b_Gat_chase : ByteArray := prog_2_method_5_code
def y_Gat_chase : MethodName := ⟨R_Gat, "chase", "(IZ)I"⟩
abbrev b_Gat_fallBack : ByteArray := prog_2_method_6_code
def y_Gat_fallBack : MethodName := ⟨R_Gat, "fallBack", "()I"⟩
abbrev b_Gat_fetch : ByteArray := prog_2_method_7_code
def y_Gat_fetch : MethodName := ⟨R_Gat, "fetch", "(I)V"⟩
abbrev b_Gat_enqueueAll : ByteArray := prog_2_method_8_code
def y_Gat_enqueueAll : MethodName := ⟨R_Gat, "enqueueAll", "(LPoliteGatherer$Row;I)V"⟩
abbrev b_Gat_setAllFrom : ByteArray := prog_2_method_9_code
def y_Gat_setAllFrom : MethodName := ⟨R_Gat, "setAllFrom", "(I)V"⟩
abbrev b_Gat_setMark : ByteArray := prog_2_method_10_code
def y_Gat_setMark : MethodName := ⟨R_Gat, "setMark", "()V"⟩
abbrev b_Rank_init : ByteArray := prog_5_method_1_code
def y_Rank_init : MethodName := ⟨R_Rank, "<init>", "(LPoliteGatherer$Web;LPoliteGatherer$Gathering;)V"⟩
abbrev b_Rank_documentOf : ByteArray := prog_5_method_2_code
def y_Rank_documentOf : MethodName := ⟨R_Rank, "documentOf", "(I)I"⟩
abbrev b_Rank_isDocument : ByteArray := prog_5_method_3_code
def y_Rank_isDocument : MethodName := ⟨R_Rank, "isDocument", "(I)Z"⟩
abbrev b_Rank_computeRanks : ByteArray := prog_5_method_4_code
def y_Rank_computeRanks : MethodName := ⟨R_Rank, "computeRanks", "(I)V"⟩
abbrev b_Rank_computeScores : ByteArray := prog_5_method_5_code
def y_Rank_computeScores : MethodName := ⟨R_Rank, "computeScores", "(II)V"⟩
abbrev b_Rank_documentAtPlace : ByteArray := prog_5_method_6_code
def y_Rank_documentAtPlace : MethodName := ⟨R_Rank, "documentAtPlace", "(I)I"⟩
abbrev b_Rank_listDocuments : ByteArray := prog_5_method_7_code
def y_Rank_listDocuments : MethodName := ⟨R_Rank, "listDocuments", "()V"⟩
abbrev b_Rank_followLinks : ByteArray := prog_5_method_8_code
def y_Rank_followLinks : MethodName := ⟨R_Rank, "followLinks", "(I)V"⟩
abbrev b_Rank_playRound : ByteArray := prog_5_method_9_code
def y_Rank_playRound : MethodName := ⟨R_Rank, "playRound", "()V"⟩
abbrev b_Rank_passOn : ByteArray := prog_5_method_10_code
def y_Rank_passOn : MethodName := ⟨R_Rank, "passOn", "(I)V"⟩
abbrev b_Rank_placeOf : ByteArray := prog_5_method_11_code
def y_Rank_placeOf : MethodName := ⟨R_Rank, "placeOf", "(I)I"⟩
abbrev b_Rank_standsBefore : ByteArray := prog_5_method_12_code
def y_Rank_standsBefore : MethodName := ⟨R_Rank, "standsBefore", "(II)Z"⟩
abbrev b_Mod_init : ByteArray := prog_10_method_1_code
def y_Mod_init : MethodName := ⟨R_Mod, "<init>", "()V"⟩
abbrev b_Mod_isPage : ByteArray := prog_10_method_2_code
def y_Mod_isPage : MethodName := ⟨R_Mod, "isPage", "(I)Z"⟩
abbrev b_Mod_page : ByteArray := prog_10_method_3_code
def y_Mod_page : MethodName := ⟨R_Mod, "page", "(II)I"⟩
abbrev b_Mod_write : ByteArray := prog_10_method_4_code
def y_Mod_write : MethodName := ⟨R_Mod, "write", "(II)Z"⟩
abbrev b_Mod_link : ByteArray := prog_10_method_5_code
def y_Mod_link : MethodName := ⟨R_Mod, "link", "(II)Z"⟩
abbrev b_Mod_move : ByteArray := prog_10_method_6_code
def y_Mod_move : MethodName := ⟨R_Mod, "move", "(II)Z"⟩
abbrev b_Mod_drop : ByteArray := prog_10_method_7_code
def y_Mod_drop : MethodName := ⟨R_Mod, "drop", "(I)Z"⟩
abbrev b_Mod_rule : ByteArray := prog_10_method_8_code
def y_Mod_rule : MethodName := ⟨R_Mod, "rule", "(IIZ)Z"⟩
abbrev b_Mod_first : ByteArray := prog_10_method_9_code
def y_Mod_first : MethodName := ⟨R_Mod, "first", "(I)Z"⟩
abbrev b_Mod_taken : ByteArray := prog_10_method_10_code
def y_Mod_taken : MethodName := ⟨R_Mod, "taken", "(II)I"⟩
abbrev b_Mod_allowed : ByteArray := prog_10_method_11_code
def y_Mod_allowed : MethodName := ⟨R_Mod, "allowed", "(I)Z"⟩
abbrev b_Mod_isFetched : ByteArray := prog_10_method_12_code
def y_Mod_isFetched : MethodName := ⟨R_Mod, "isFetched", "(I)Z"⟩
abbrev b_Mod_fetch : ByteArray := prog_10_method_13_code
def y_Mod_fetch : MethodName := ⟨R_Mod, "fetch", "(I)V"⟩
abbrev b_Mod_chase : ByteArray := prog_10_method_14_code
def y_Mod_chase : MethodName := ⟨R_Mod, "chase", "(IZ)I"⟩
abbrev b_Mod_placeInCorpus : ByteArray := prog_10_method_15_code
def y_Mod_placeInCorpus : MethodName := ⟨R_Mod, "placeInCorpus", "(I)I"⟩
abbrev b_Mod_queue : ByteArray := prog_10_method_16_code
def y_Mod_queue : MethodName := ⟨R_Mod, "queue", "(II)V"⟩
abbrev b_Mod_handle : ByteArray := prog_10_method_17_code
def y_Mod_handle : MethodName := ⟨R_Mod, "handle", "()V"⟩
abbrev b_Mod_mark : ByteArray := prog_10_method_18_code
def y_Mod_mark : MethodName := ⟨R_Mod, "mark", "()V"⟩
abbrev b_Mod_begin : ByteArray := prog_10_method_19_code
def y_Mod_begin : MethodName := ⟨R_Mod, "begin", "(IIII)Z"⟩
abbrev b_Mod_stop : ByteArray := prog_10_method_20_code
def y_Mod_stop : MethodName := ⟨R_Mod, "stop", "()Z"⟩
abbrev b_Mod_work : ByteArray := prog_10_method_21_code
def y_Mod_work : MethodName := ⟨R_Mod, "work", "(I)I"⟩
abbrev b_Mod_crash : ByteArray := prog_10_method_22_code
def y_Mod_crash : MethodName := ⟨R_Mod, "crash", "()I"⟩
abbrev b_Mod_found : ByteArray := prog_10_method_23_code
def y_Mod_found : MethodName := ⟨R_Mod, "found", "(I)I"⟩
abbrev b_Mod_clock : ByteArray := prog_10_method_24_code
def y_Mod_clock : MethodName := ⟨R_Mod, "clock", "()I"⟩
abbrev b_Mod_fetches : ByteArray := prog_10_method_25_code
def y_Mod_fetches : MethodName := ⟨R_Mod, "fetches", "()I"⟩
abbrev b_Mod_waiting : ByteArray := prog_10_method_26_code
def y_Mod_waiting : MethodName := ⟨R_Mod, "waiting", "()I"⟩
abbrev b_Mod_corpusAt : ByteArray := prog_10_method_27_code
def y_Mod_corpusAt : MethodName := ⟨R_Mod, "corpusAt", "(I)I"⟩
abbrev b_Mod_sameBody : ByteArray := prog_10_method_28_code
def y_Mod_sameBody : MethodName := ⟨R_Mod, "sameBody", "(II)Z"⟩
abbrev b_Mod_document : ByteArray := prog_10_method_29_code
def y_Mod_document : MethodName := ⟨R_Mod, "document", "(I)I"⟩
abbrev b_Mod_isDocument : ByteArray := prog_10_method_30_code
def y_Mod_isDocument : MethodName := ⟨R_Mod, "isDocument", "(I)Z"⟩
abbrev b_Mod_rankAll : ByteArray := prog_10_method_31_code
def y_Mod_rankAll : MethodName := ⟨R_Mod, "rankAll", "(I)V"⟩
abbrev b_Mod_sum : ByteArray := prog_10_method_32_code
def y_Mod_sum : MethodName := ⟨R_Mod, "sum", "(I)J"⟩
abbrev b_Mod_rank : ByteArray := prog_10_method_33_code
def y_Mod_rank : MethodName := ⟨R_Mod, "rank", "(II)J"⟩
abbrev b_Mod_score : ByteArray := prog_10_method_34_code
def y_Mod_score : MethodName := ⟨R_Mod, "score", "(III)J"⟩
abbrev b_Mod_comesBefore : ByteArray := prog_10_method_35_code
def y_Mod_comesBefore : MethodName := ⟨R_Mod, "comesBefore", "(IIII)Z"⟩
abbrev b_Mod_best : ByteArray := prog_10_method_36_code
def y_Mod_best : MethodName := ⟨R_Mod, "best", "(III)I"⟩
end
section
/-! Words: each one among the tables. -/
theorem qr1 {w : Cond} (h : w ∈ tables_1_1) : w ∈ tables_1 := List.mem_append_left _ h
theorem qr2 {w : Cond} (h : w ∈ tables_1_2) : w ∈ tables_1 := List.mem_append_right _ (List.mem_append_left _ h)
theorem qr3 {w : Cond} (h : w ∈ tables_1_3) : w ∈ tables_1 := List.mem_append_right _ (List.mem_append_right _ (List.mem_append_left _ h))
theorem qr4 {w : Cond} (h : w ∈ tables_1_4) : w ∈ tables_1 := List.mem_append_right _ (List.mem_append_right _ (List.mem_append_right _ h))
theorem q0 : Jvm.Cond.initialized "PoliteGathererLaw" ∈ tables_1 := qr1 (List.mem_of_getElem? (i := 0) rfl)
theorem q1 : Jvm.Cond.initialized "PoliteGatherer" ∈ tables_1 := qr1 (List.mem_of_getElem? (i := 1) rfl)
theorem q2 : Jvm.Cond.initialized "PoliteGatherer$Web" ∈ tables_1 := qr1 (List.mem_of_getElem? (i := 2) rfl)
theorem q3 : Jvm.Cond.initialized "PoliteGatherer$Host" ∈ tables_1 := qr1 (List.mem_of_getElem? (i := 3) rfl)
theorem q4 : Jvm.Cond.initialized "PoliteGatherer$Row" ∈ tables_1 := qr1 (List.mem_of_getElem? (i := 4) rfl)
theorem q5 : Jvm.Cond.initialized "PoliteGatherer$Gathering" ∈ tables_1 := qr1 (List.mem_of_getElem? (i := 5) rfl)
theorem q6 : Jvm.Cond.initialized "PoliteGatherer$Ranking" ∈ tables_1 := qr1 (List.mem_of_getElem? (i := 6) rfl)
theorem q7 : Jvm.Cond.initialized "PoliteGathererModel" ∈ tables_1 := qr1 (List.mem_of_getElem? (i := 7) rfl)
theorem q8 : Jvm.Cond.initialized "PoliteGatherer$Page" ∈ tables_1 := qr1 (List.mem_of_getElem? (i := 8) rfl)
theorem q9 : Jvm.Cond.initialized "java/lang/Enum" ∈ tables_1 := qr1 (List.mem_of_getElem? (i := 9) rfl)
theorem q10 : Jvm.Cond.initialized "PoliteGatherer$Reply" ∈ tables_1 := qr1 (List.mem_of_getElem? (i := 10) rfl)
theorem q11 : Jvm.Cond.initialized "java/lang/Math" ∈ tables_1 := qr1 (List.mem_of_getElem? (i := 11) rfl)
theorem q12 : Jvm.Cond.classLink "PoliteGathererLaw" (7 : Nat) "PoliteGatherer" ∈ tables_1 := qr1 (List.mem_of_getElem? (i := 12) rfl)
theorem q13 : Jvm.Cond.instantiable "PoliteGatherer" (4 : Nat) ∈ tables_1 := qr1 (List.mem_of_getElem? (i := 13) rfl)
theorem q14 : Jvm.Cond.methodLink "PoliteGathererLaw" (9 : Nat) ({ cls := "PoliteGatherer", name := "<init>", desc := "()V" } : Jvm.MethodName) ∈ tables_1 := qr1 (List.mem_of_getElem? (i := 14) rfl)
theorem q15 : Jvm.Cond.instanceMethod ({ cls := "PoliteGatherer", name := "<init>", desc := "()V" } : Jvm.MethodName) ∈ tables_1 := qr1 (List.mem_of_getElem? (i := 15) rfl)
theorem q16 : Jvm.Cond.code ({ cls := "PoliteGatherer", name := "<init>", desc := "()V" } : Jvm.MethodName) prog_1_method_1_code (1 : Nat) (Option.none : Option Jvm.ClassFile.FieldType) ∈ tables_1 := qr1 (List.mem_of_getElem? (i := 16) rfl)
theorem q17 : Jvm.Cond.methodLink "PoliteGatherer" (1 : Nat) ({ cls := "java/lang/Object", name := "<init>", desc := "()V" } : Jvm.MethodName) ∈ tables_1 := qr1 (List.mem_of_getElem? (i := 17) rfl)
theorem q18 : Jvm.Cond.instanceMethod ({ cls := "java/lang/Object", name := "<init>", desc := "()V" } : Jvm.MethodName) ∈ tables_1 := qr1 (List.mem_of_getElem? (i := 18) rfl)
theorem q19 : Jvm.Cond.code ({ cls := "java/lang/Object", name := "<init>", desc := "()V" } : Jvm.MethodName) object_method_1_code (1 : Nat) (Option.none : Option Jvm.ClassFile.FieldType) ∈ tables_1 := qr1 (List.mem_of_getElem? (i := 19) rfl)
theorem q20 : Jvm.Cond.classLink "PoliteGatherer" (7 : Nat) "PoliteGatherer$Web" ∈ tables_1 := qr1 (List.mem_of_getElem? (i := 20) rfl)
theorem q21 : Jvm.Cond.instantiable "PoliteGatherer$Web" (4 : Nat) ∈ tables_1 := qr1 (List.mem_of_getElem? (i := 21) rfl)
theorem q22 : Jvm.Cond.methodLink "PoliteGatherer" (9 : Nat) ({ cls := "PoliteGatherer$Web", name := "<init>", desc := "()V" } : Jvm.MethodName) ∈ tables_1 := qr1 (List.mem_of_getElem? (i := 22) rfl)
theorem q23 : Jvm.Cond.instanceMethod ({ cls := "PoliteGatherer$Web", name := "<init>", desc := "()V" } : Jvm.MethodName) ∈ tables_1 := qr1 (List.mem_of_getElem? (i := 23) rfl)
theorem q24 : Jvm.Cond.code ({ cls := "PoliteGatherer$Web", name := "<init>", desc := "()V" } : Jvm.MethodName) prog_8_method_1_code (2 : Nat) (Option.none : Option Jvm.ClassFile.FieldType) ∈ tables_1 := qr1 (List.mem_of_getElem? (i := 24) rfl)
theorem q25 : Jvm.Cond.methodLink "PoliteGatherer$Web" (3 : Nat) ({ cls := "java/lang/Object", name := "<init>", desc := "()V" } : Jvm.MethodName) ∈ tables_1 := qr1 (List.mem_of_getElem? (i := 25) rfl)
theorem q26 : Jvm.Cond.classLink "PoliteGatherer$Web" (9 : Nat) "PoliteGatherer$Page" ∈ tables_1 := qr1 (List.mem_of_getElem? (i := 26) rfl)
theorem q27 : Jvm.Cond.arrayOver (Jvm.ClassFile.FieldType.object "PoliteGatherer$Page") ∈ tables_1 := qr1 (List.mem_of_getElem? (i := 27) rfl)
theorem q28 : Jvm.Cond.classLink "PoliteGatherer$Web" (17 : Nat) "PoliteGatherer$Host" ∈ tables_1 := qr1 (List.mem_of_getElem? (i := 28) rfl)
theorem q29 : Jvm.Cond.arrayOver (Jvm.ClassFile.FieldType.object "PoliteGatherer$Host") ∈ tables_1 := qr1 (List.mem_of_getElem? (i := 29) rfl)
theorem q30 : Jvm.Cond.instantiable "PoliteGatherer$Host" (3 : Nat) ∈ tables_1 := qr1 (List.mem_of_getElem? (i := 30) rfl)
theorem q31 : Jvm.Cond.methodLink "PoliteGatherer$Web" (23 : Nat) ({ cls := "PoliteGatherer$Host", name := "<init>", desc := "()V" } : Jvm.MethodName) ∈ tables_1 := qr1 (List.mem_of_getElem? (i := 31) rfl)
theorem q32 : Jvm.Cond.instanceMethod ({ cls := "PoliteGatherer$Host", name := "<init>", desc := "()V" } : Jvm.MethodName) ∈ tables_1 := qr1 (List.mem_of_getElem? (i := 32) rfl)
theorem q33 : Jvm.Cond.code ({ cls := "PoliteGatherer$Host", name := "<init>", desc := "()V" } : Jvm.MethodName) prog_3_method_1_code (1 : Nat) (Option.none : Option Jvm.ClassFile.FieldType) ∈ tables_1 := qr1 (List.mem_of_getElem? (i := 33) rfl)
theorem q34 : Jvm.Cond.methodLink "PoliteGatherer$Host" (3 : Nat) ({ cls := "java/lang/Object", name := "<init>", desc := "()V" } : Jvm.MethodName) ∈ tables_1 := qr1 (List.mem_of_getElem? (i := 34) rfl)
theorem q35 : Jvm.Cond.fieldLink "PoliteGatherer$Host" (9 : Nat) "PoliteGatherer$Host" "prefixes" "[I" ∈ tables_1 := qr1 (List.mem_of_getElem? (i := 35) rfl)
theorem q36 : Jvm.Cond.fieldLink "PoliteGatherer$Host" (15 : Nat) "PoliteGatherer$Host" "allowing" "[Z" ∈ tables_1 := qr1 (List.mem_of_getElem? (i := 36) rfl)
theorem q37 : Jvm.Cond.fieldLink "PoliteGatherer$Host" (19 : Nat) "PoliteGatherer$Host" "ruleCount" "I" ∈ tables_1 := qr1 (List.mem_of_getElem? (i := 37) rfl)
theorem q38 : Jvm.Cond.laysFinal "PoliteGatherer$Host" "PoliteGatherer$Host" "prefixes" "[I" ∈ tables_1 := qr1 (List.mem_of_getElem? (i := 38) rfl)
theorem q40 : Jvm.Cond.laysFinal "PoliteGatherer$Host" "PoliteGatherer$Host" "allowing" "[Z" ∈ tables_1 := qr1 (List.mem_of_getElem? (i := 40) rfl)
theorem q42 : Jvm.Cond.lays "PoliteGatherer$Host" "PoliteGatherer$Host" "ruleCount" "I" ∈ tables_1 := qr1 (List.mem_of_getElem? (i := 42) rfl)
theorem q45 : Jvm.Cond.arrayClass Jvm.ClassFile.FieldType.int ∈ tables_1 := qr1 (List.mem_of_getElem? (i := 45) rfl)
theorem q46 : Jvm.Cond.arrayClass Jvm.ClassFile.FieldType.boolean ∈ tables_1 := qr1 (List.mem_of_getElem? (i := 46) rfl)
theorem q47 : Jvm.Cond.classLink "PoliteGatherer$Web" (24 : Nat) "PoliteGatherer$Row" ∈ tables_1 := qr1 (List.mem_of_getElem? (i := 47) rfl)
theorem q48 : Jvm.Cond.instantiable "PoliteGatherer$Row" (2 : Nat) ∈ tables_1 := qr1 (List.mem_of_getElem? (i := 48) rfl)
theorem q49 : Jvm.Cond.methodLink "PoliteGatherer$Web" (26 : Nat) ({ cls := "PoliteGatherer$Row", name := "<init>", desc := "(I)V" } : Jvm.MethodName) ∈ tables_1 := qr1 (List.mem_of_getElem? (i := 49) rfl)
theorem q50 : Jvm.Cond.instanceMethod ({ cls := "PoliteGatherer$Row", name := "<init>", desc := "(I)V" } : Jvm.MethodName) ∈ tables_1 := qr1 (List.mem_of_getElem? (i := 50) rfl)
theorem q51 : Jvm.Cond.code ({ cls := "PoliteGatherer$Row", name := "<init>", desc := "(I)V" } : Jvm.MethodName) prog_7_method_1_code (2 : Nat) (Option.none : Option Jvm.ClassFile.FieldType) ∈ tables_1 := qr1 (List.mem_of_getElem? (i := 51) rfl)
theorem q52 : Jvm.Cond.methodLink "PoliteGatherer$Row" (3 : Nat) ({ cls := "java/lang/Object", name := "<init>", desc := "()V" } : Jvm.MethodName) ∈ tables_1 := qr1 (List.mem_of_getElem? (i := 52) rfl)
theorem q53 : Jvm.Cond.fieldLink "PoliteGatherer$Row" (9 : Nat) "PoliteGatherer$Row" "items" "[I" ∈ tables_1 := qr1 (List.mem_of_getElem? (i := 53) rfl)
theorem q54 : Jvm.Cond.fieldLink "PoliteGatherer$Row" (15 : Nat) "PoliteGatherer$Row" "size" "I" ∈ tables_1 := qr1 (List.mem_of_getElem? (i := 54) rfl)
theorem q55 : Jvm.Cond.fieldLinkNest "PoliteGatherer$Ranking" (67 : Nat) "PoliteGatherer$Row" "size" "I" "PoliteGatherer" ∈ tables_1 := qr1 (List.mem_of_getElem? (i := 55) rfl)
theorem q56 : Jvm.Cond.fieldLinkNest "PoliteGatherer$Gathering" (77 : Nat) "PoliteGatherer$Row" "size" "I" "PoliteGatherer" ∈ tables_1 := qr1 (List.mem_of_getElem? (i := 56) rfl)
theorem q57 : Jvm.Cond.fieldLinkNest "PoliteGatherer$Page" (42 : Nat) "PoliteGatherer$Row" "size" "I" "PoliteGatherer" ∈ tables_1 := qr1 (List.mem_of_getElem? (i := 57) rfl)
theorem q58 : Jvm.Cond.fieldLinkNest "PoliteGatherer" (104 : Nat) "PoliteGatherer$Row" "size" "I" "PoliteGatherer" ∈ tables_1 := qr1 (List.mem_of_getElem? (i := 58) rfl)
theorem q59 : Jvm.Cond.laysFinal "PoliteGatherer$Row" "PoliteGatherer$Row" "items" "[I" ∈ tables_1 := qr1 (List.mem_of_getElem? (i := 59) rfl)
theorem q61 : Jvm.Cond.lays "PoliteGatherer$Row" "PoliteGatherer$Row" "size" "I" ∈ tables_1 := qr1 (List.mem_of_getElem? (i := 61) rfl)
theorem q64 : Jvm.Cond.fieldLink "PoliteGatherer$Web" (11 : Nat) "PoliteGatherer$Web" "pages" "[LPoliteGatherer$Page;" ∈ tables_1 := qr1 (List.mem_of_getElem? (i := 64) rfl)
theorem q65 : Jvm.Cond.fieldLinkNest "PoliteGatherer$Ranking" (56 : Nat) "PoliteGatherer$Web" "pages" "[LPoliteGatherer$Page;" "PoliteGatherer" ∈ tables_1 := qr1 (List.mem_of_getElem? (i := 65) rfl)
theorem q66 : Jvm.Cond.fieldLinkNest "PoliteGatherer" (50 : Nat) "PoliteGatherer$Web" "pages" "[LPoliteGatherer$Page;" "PoliteGatherer" ∈ tables_1 := qr1 (List.mem_of_getElem? (i := 66) rfl)
theorem q67 : Jvm.Cond.fieldLinkNest "PoliteGatherer$Gathering" (95 : Nat) "PoliteGatherer$Web" "pages" "[LPoliteGatherer$Page;" "PoliteGatherer" ∈ tables_1 := qr1 (List.mem_of_getElem? (i := 67) rfl)
theorem q68 : Jvm.Cond.fieldLink "PoliteGatherer$Web" (19 : Nat) "PoliteGatherer$Web" "hosts" "[LPoliteGatherer$Host;" ∈ tables_1 := qr1 (List.mem_of_getElem? (i := 68) rfl)
theorem q69 : Jvm.Cond.fieldLinkNest "PoliteGatherer" (91 : Nat) "PoliteGatherer$Web" "hosts" "[LPoliteGatherer$Host;" "PoliteGatherer" ∈ tables_1 := qr1 (List.mem_of_getElem? (i := 69) rfl)
theorem q70 : Jvm.Cond.fieldLink "PoliteGatherer$Web" (29 : Nat) "PoliteGatherer$Web" "firsts" "LPoliteGatherer$Row;" ∈ tables_1 := qr1 (List.mem_of_getElem? (i := 70) rfl)
theorem q71 : Jvm.Cond.fieldLinkNest "PoliteGatherer$Gathering" (65 : Nat) "PoliteGatherer$Web" "firsts" "LPoliteGatherer$Row;" "PoliteGatherer" ∈ tables_1 := qr1 (List.mem_of_getElem? (i := 71) rfl)
theorem q72 : Jvm.Cond.fieldLinkNest "PoliteGatherer" (101 : Nat) "PoliteGatherer$Web" "firsts" "LPoliteGatherer$Row;" "PoliteGatherer" ∈ tables_1 := qr1 (List.mem_of_getElem? (i := 72) rfl)
theorem q73 : Jvm.Cond.fieldLink "PoliteGatherer$Web" (33 : Nat) "PoliteGatherer$Web" "pageCount" "I" ∈ tables_1 := qr1 (List.mem_of_getElem? (i := 73) rfl)
theorem q74 : Jvm.Cond.laysFinal "PoliteGatherer$Web" "PoliteGatherer$Web" "pages" "[LPoliteGatherer$Page;" ∈ tables_1 := qr1 (List.mem_of_getElem? (i := 74) rfl)
theorem q76 : Jvm.Cond.laysFinal "PoliteGatherer$Web" "PoliteGatherer$Web" "hosts" "[LPoliteGatherer$Host;" ∈ tables_1 := qr1 (List.mem_of_getElem? (i := 76) rfl)
theorem q78 : Jvm.Cond.laysFinal "PoliteGatherer$Web" "PoliteGatherer$Web" "firsts" "LPoliteGatherer$Row;" ∈ tables_1 := qr1 (List.mem_of_getElem? (i := 78) rfl)
theorem q80 : Jvm.Cond.lays "PoliteGatherer$Web" "PoliteGatherer$Web" "pageCount" "I" ∈ tables_1 := qr1 (List.mem_of_getElem? (i := 80) rfl)
theorem q83 : Jvm.Cond.classLink "PoliteGatherer" (16 : Nat) "PoliteGatherer$Gathering" ∈ tables_1 := qr1 (List.mem_of_getElem? (i := 83) rfl)
theorem q84 : Jvm.Cond.instantiable "PoliteGatherer$Gathering" (17 : Nat) ∈ tables_1 := qr1 (List.mem_of_getElem? (i := 84) rfl)
theorem q85 : Jvm.Cond.methodLink "PoliteGatherer" (18 : Nat) ({ cls := "PoliteGatherer$Gathering", name := "<init>", desc := "(LPoliteGatherer$Web;)V" } : Jvm.MethodName) ∈ tables_1 := qr1 (List.mem_of_getElem? (i := 85) rfl)
theorem q86 : Jvm.Cond.instanceMethod ({ cls := "PoliteGatherer$Gathering", name := "<init>", desc := "(LPoliteGatherer$Web;)V" } : Jvm.MethodName) ∈ tables_1 := qr1 (List.mem_of_getElem? (i := 86) rfl)
theorem q87 : Jvm.Cond.code ({ cls := "PoliteGatherer$Gathering", name := "<init>", desc := "(LPoliteGatherer$Web;)V" } : Jvm.MethodName) prog_2_method_1_code (2 : Nat) (Option.none : Option Jvm.ClassFile.FieldType) ∈ tables_1 := qr1 (List.mem_of_getElem? (i := 87) rfl)
theorem q88 : Jvm.Cond.methodLink "PoliteGatherer$Gathering" (3 : Nat) ({ cls := "java/lang/Object", name := "<init>", desc := "()V" } : Jvm.MethodName) ∈ tables_1 := qr1 (List.mem_of_getElem? (i := 88) rfl)
theorem q89 : Jvm.Cond.classLink "PoliteGatherer$Gathering" (15 : Nat) "PoliteGatherer$Row" ∈ tables_1 := qr1 (List.mem_of_getElem? (i := 89) rfl)
theorem q90 : Jvm.Cond.methodLink "PoliteGatherer$Gathering" (17 : Nat) ({ cls := "PoliteGatherer$Row", name := "<init>", desc := "(I)V" } : Jvm.MethodName) ∈ tables_1 := qr1 (List.mem_of_getElem? (i := 90) rfl)
theorem q91 : Jvm.Cond.fieldLink "PoliteGatherer$Gathering" (9 : Nat) "PoliteGatherer$Gathering" "web" "LPoliteGatherer$Web;" ∈ tables_1 := qr1 (List.mem_of_getElem? (i := 91) rfl)
theorem q92 : Jvm.Cond.fieldLink "PoliteGatherer$Gathering" (20 : Nat) "PoliteGatherer$Gathering" "queued" "LPoliteGatherer$Row;" ∈ tables_1 := qr1 (List.mem_of_getElem? (i := 92) rfl)
theorem q93 : Jvm.Cond.fieldLink "PoliteGatherer$Gathering" (24 : Nat) "PoliteGatherer$Gathering" "depths" "LPoliteGatherer$Row;" ∈ tables_1 := qr1 (List.mem_of_getElem? (i := 93) rfl)
theorem q94 : Jvm.Cond.fieldLink "PoliteGatherer$Gathering" (27 : Nat) "PoliteGatherer$Gathering" "fetched" "LPoliteGatherer$Row;" ∈ tables_1 := qr1 (List.mem_of_getElem? (i := 94) rfl)
theorem q95 : Jvm.Cond.fieldLink "PoliteGatherer$Gathering" (30 : Nat) "PoliteGatherer$Gathering" "corpus" "LPoliteGatherer$Row;" ∈ tables_1 := qr1 (List.mem_of_getElem? (i := 95) rfl)
theorem q96 : Jvm.Cond.fieldLinkNest "PoliteGatherer$Ranking" (47 : Nat) "PoliteGatherer$Gathering" "corpus" "LPoliteGatherer$Row;" "PoliteGatherer" ∈ tables_1 := qr1 (List.mem_of_getElem? (i := 96) rfl)
theorem q97 : Jvm.Cond.fieldLinkNest "PoliteGatherer" (134 : Nat) "PoliteGatherer$Gathering" "corpus" "LPoliteGatherer$Row;" "PoliteGatherer" ∈ tables_1 := qr1 (List.mem_of_getElem? (i := 97) rfl)
theorem q98 : Jvm.Cond.fieldLink "PoliteGatherer$Gathering" (33 : Nat) "PoliteGatherer$Gathering" "from" "[I" ∈ tables_1 := qr1 (List.mem_of_getElem? (i := 98) rfl)
theorem q99 : Jvm.Cond.fieldLink "PoliteGatherer$Gathering" (37 : Nat) "PoliteGatherer$Gathering" "limit" "I" ∈ tables_1 := qr1 (List.mem_of_getElem? (i := 99) rfl)
theorem q100 : Jvm.Cond.fieldLink "PoliteGatherer$Gathering" (41 : Nat) "PoliteGatherer$Gathering" "hops" "I" ∈ tables_1 := qr1 (List.mem_of_getElem? (i := 100) rfl)
theorem q101 : Jvm.Cond.fieldLink "PoliteGatherer$Gathering" (44 : Nat) "PoliteGatherer$Gathering" "delay" "I" ∈ tables_1 := qr1 (List.mem_of_getElem? (i := 101) rfl)
theorem q102 : Jvm.Cond.fieldLink "PoliteGatherer$Gathering" (47 : Nat) "PoliteGatherer$Gathering" "every" "I" ∈ tables_1 := qr1 (List.mem_of_getElem? (i := 102) rfl)
theorem q103 : Jvm.Cond.fieldLink "PoliteGatherer$Gathering" (53 : Nat) "PoliteGatherer$Gathering" "handled" "I" ∈ tables_1 := qr1 (List.mem_of_getElem? (i := 103) rfl)
theorem q104 : Jvm.Cond.fieldLink "PoliteGatherer$Gathering" (56 : Nat) "PoliteGatherer$Gathering" "now" "I" ∈ tables_1 := qr1 (List.mem_of_getElem? (i := 104) rfl)
theorem q105 : Jvm.Cond.fieldLinkNest "PoliteGatherer" (131 : Nat) "PoliteGatherer$Gathering" "now" "I" "PoliteGatherer" ∈ tables_1 := qr1 (List.mem_of_getElem? (i := 105) rfl)
theorem q106 : Jvm.Cond.fieldLink "PoliteGatherer$Gathering" (59 : Nat) "PoliteGatherer$Gathering" "fetchCount" "I" ∈ tables_1 := qr1 (List.mem_of_getElem? (i := 106) rfl)
theorem q107 : Jvm.Cond.fieldLinkNest "PoliteGatherer" (111 : Nat) "PoliteGatherer$Gathering" "fetchCount" "I" "PoliteGatherer" ∈ tables_1 := qr1 (List.mem_of_getElem? (i := 107) rfl)
theorem q108 : Jvm.Cond.fieldLink "PoliteGatherer$Gathering" (104 : Nat) "PoliteGatherer$Gathering" "handledAtMark" "I" ∈ tables_1 := qr1 (List.mem_of_getElem? (i := 108) rfl)
theorem q109 : Jvm.Cond.fieldLink "PoliteGatherer$Gathering" (128 : Nat) "PoliteGatherer$Gathering" "queuedAtMark" "I" ∈ tables_1 := qr1 (List.mem_of_getElem? (i := 109) rfl)
theorem q110 : Jvm.Cond.fieldLink "PoliteGatherer$Gathering" (131 : Nat) "PoliteGatherer$Gathering" "fetchedAtMark" "I" ∈ tables_1 := qr1 (List.mem_of_getElem? (i := 110) rfl)
theorem q111 : Jvm.Cond.fieldLink "PoliteGatherer$Gathering" (134 : Nat) "PoliteGatherer$Gathering" "corpusAtMark" "I" ∈ tables_1 := qr1 (List.mem_of_getElem? (i := 111) rfl)
theorem q112 : Jvm.Cond.laysFinal "PoliteGatherer$Gathering" "PoliteGatherer$Gathering" "web" "LPoliteGatherer$Web;" ∈ tables_1 := qr1 (List.mem_of_getElem? (i := 112) rfl)
theorem q114 : Jvm.Cond.laysFinal "PoliteGatherer$Gathering" "PoliteGatherer$Gathering" "queued" "LPoliteGatherer$Row;" ∈ tables_1 := qr1 (List.mem_of_getElem? (i := 114) rfl)
theorem q116 : Jvm.Cond.laysFinal "PoliteGatherer$Gathering" "PoliteGatherer$Gathering" "depths" "LPoliteGatherer$Row;" ∈ tables_1 := qr1 (List.mem_of_getElem? (i := 116) rfl)
theorem q118 : Jvm.Cond.laysFinal "PoliteGatherer$Gathering" "PoliteGatherer$Gathering" "fetched" "LPoliteGatherer$Row;" ∈ tables_1 := qr1 (List.mem_of_getElem? (i := 118) rfl)
theorem q120 : Jvm.Cond.laysFinal "PoliteGatherer$Gathering" "PoliteGatherer$Gathering" "corpus" "LPoliteGatherer$Row;" ∈ tables_1 := qr1 (List.mem_of_getElem? (i := 120) rfl)
theorem q122 : Jvm.Cond.laysFinal "PoliteGatherer$Gathering" "PoliteGatherer$Gathering" "from" "[I" ∈ tables_1 := qr1 (List.mem_of_getElem? (i := 122) rfl)
theorem q124 : Jvm.Cond.lays "PoliteGatherer$Gathering" "PoliteGatherer$Gathering" "limit" "I" ∈ tables_1 := qr1 (List.mem_of_getElem? (i := 124) rfl)
theorem q126 : Jvm.Cond.lays "PoliteGatherer$Gathering" "PoliteGatherer$Gathering" "hops" "I" ∈ tables_1 := qr1 (List.mem_of_getElem? (i := 126) rfl)
theorem q128 : Jvm.Cond.lays "PoliteGatherer$Gathering" "PoliteGatherer$Gathering" "delay" "I" ∈ tables_1 := qr1 (List.mem_of_getElem? (i := 128) rfl)
theorem q130 : Jvm.Cond.lays "PoliteGatherer$Gathering" "PoliteGatherer$Gathering" "every" "I" ∈ tables_1 := qr1 (List.mem_of_getElem? (i := 130) rfl)
theorem q132 : Jvm.Cond.lays "PoliteGatherer$Gathering" "PoliteGatherer$Gathering" "handled" "I" ∈ tables_1 := qr1 (List.mem_of_getElem? (i := 132) rfl)
theorem q134 : Jvm.Cond.lays "PoliteGatherer$Gathering" "PoliteGatherer$Gathering" "now" "I" ∈ tables_1 := qr1 (List.mem_of_getElem? (i := 134) rfl)
theorem q136 : Jvm.Cond.lays "PoliteGatherer$Gathering" "PoliteGatherer$Gathering" "fetchCount" "I" ∈ tables_1 := qr1 (List.mem_of_getElem? (i := 136) rfl)
theorem q138 : Jvm.Cond.lays "PoliteGatherer$Gathering" "PoliteGatherer$Gathering" "handledAtMark" "I" ∈ tables_1 := qr1 (List.mem_of_getElem? (i := 138) rfl)
theorem q140 : Jvm.Cond.lays "PoliteGatherer$Gathering" "PoliteGatherer$Gathering" "queuedAtMark" "I" ∈ tables_1 := qr1 (List.mem_of_getElem? (i := 140) rfl)
theorem q142 : Jvm.Cond.lays "PoliteGatherer$Gathering" "PoliteGatherer$Gathering" "fetchedAtMark" "I" ∈ tables_1 := qr1 (List.mem_of_getElem? (i := 142) rfl)
theorem q144 : Jvm.Cond.lays "PoliteGatherer$Gathering" "PoliteGatherer$Gathering" "corpusAtMark" "I" ∈ tables_1 := qr1 (List.mem_of_getElem? (i := 144) rfl)
theorem q147 : Jvm.Cond.classLink "PoliteGatherer" (25 : Nat) "PoliteGatherer$Ranking" ∈ tables_1 := qr1 (List.mem_of_getElem? (i := 147) rfl)
theorem q148 : Jvm.Cond.instantiable "PoliteGatherer$Ranking" (8 : Nat) ∈ tables_1 := qr1 (List.mem_of_getElem? (i := 148) rfl)
theorem q149 : Jvm.Cond.methodLink "PoliteGatherer" (27 : Nat) ({ cls := "PoliteGatherer$Ranking", name := "<init>", desc := "(LPoliteGatherer$Web;LPoliteGatherer$Gathering;)V" } : Jvm.MethodName) ∈ tables_1 := qr1 (List.mem_of_getElem? (i := 149) rfl)
theorem q150 : Jvm.Cond.instanceMethod ({ cls := "PoliteGatherer$Ranking", name := "<init>", desc := "(LPoliteGatherer$Web;LPoliteGatherer$Gathering;)V" } : Jvm.MethodName) ∈ tables_1 := qr1 (List.mem_of_getElem? (i := 150) rfl)
theorem q151 : Jvm.Cond.code ({ cls := "PoliteGatherer$Ranking", name := "<init>", desc := "(LPoliteGatherer$Web;LPoliteGatherer$Gathering;)V" } : Jvm.MethodName) prog_5_method_1_code (3 : Nat) (Option.none : Option Jvm.ClassFile.FieldType) ∈ tables_1 := qr1 (List.mem_of_getElem? (i := 151) rfl)
theorem q152 : Jvm.Cond.methodLink "PoliteGatherer$Ranking" (3 : Nat) ({ cls := "java/lang/Object", name := "<init>", desc := "()V" } : Jvm.MethodName) ∈ tables_1 := qr1 (List.mem_of_getElem? (i := 152) rfl)
theorem q153 : Jvm.Cond.classLink "PoliteGatherer$Ranking" (19 : Nat) "PoliteGatherer$Row" ∈ tables_1 := qr1 (List.mem_of_getElem? (i := 153) rfl)
theorem q154 : Jvm.Cond.methodLink "PoliteGatherer$Ranking" (21 : Nat) ({ cls := "PoliteGatherer$Row", name := "<init>", desc := "(I)V" } : Jvm.MethodName) ∈ tables_1 := qr1 (List.mem_of_getElem? (i := 154) rfl)
theorem q155 : Jvm.Cond.classLink "PoliteGatherer$Ranking" (28 : Nat) "[[I" ∈ tables_1 := qr1 (List.mem_of_getElem? (i := 155) rfl)
theorem q156 : Jvm.Cond.arrayOver (Jvm.ClassFile.FieldType.array Jvm.ClassFile.FieldType.int) ∈ tables_1 := qr1 (List.mem_of_getElem? (i := 156) rfl)
theorem q157 : Jvm.Cond.fieldLink "PoliteGatherer$Ranking" (9 : Nat) "PoliteGatherer$Ranking" "web" "LPoliteGatherer$Web;" ∈ tables_1 := qr1 (List.mem_of_getElem? (i := 157) rfl)
theorem q158 : Jvm.Cond.fieldLink "PoliteGatherer$Ranking" (15 : Nat) "PoliteGatherer$Ranking" "gathering" "LPoliteGatherer$Gathering;" ∈ tables_1 := qr1 (List.mem_of_getElem? (i := 158) rfl)
theorem q159 : Jvm.Cond.fieldLink "PoliteGatherer$Ranking" (24 : Nat) "PoliteGatherer$Ranking" "documents" "LPoliteGatherer$Row;" ∈ tables_1 := qr1 (List.mem_of_getElem? (i := 159) rfl)
theorem q160 : Jvm.Cond.fieldLink "PoliteGatherer$Ranking" (30 : Nat) "PoliteGatherer$Ranking" "leads" "[[I" ∈ tables_1 := qr1 (List.mem_of_getElem? (i := 160) rfl)
theorem q161 : Jvm.Cond.fieldLink "PoliteGatherer$Ranking" (33 : Nat) "PoliteGatherer$Ranking" "leading" "[I" ∈ tables_1 := qr1 (List.mem_of_getElem? (i := 161) rfl)
theorem q162 : Jvm.Cond.fieldLink "PoliteGatherer$Ranking" (37 : Nat) "PoliteGatherer$Ranking" "ranks" "[J" ∈ tables_1 := qr1 (List.mem_of_getElem? (i := 162) rfl)
theorem q163 : Jvm.Cond.fieldLinkNest "PoliteGatherer" (151 : Nat) "PoliteGatherer$Ranking" "ranks" "[J" "PoliteGatherer" ∈ tables_1 := qr1 (List.mem_of_getElem? (i := 163) rfl)
theorem q164 : Jvm.Cond.fieldLink "PoliteGatherer$Ranking" (41 : Nat) "PoliteGatherer$Ranking" "sums" "[J" ∈ tables_1 := qr1 (List.mem_of_getElem? (i := 164) rfl)
theorem q165 : Jvm.Cond.fieldLink "PoliteGatherer$Ranking" (44 : Nat) "PoliteGatherer$Ranking" "scores" "[J" ∈ tables_1 := qr1 (List.mem_of_getElem? (i := 165) rfl)
theorem q166 : Jvm.Cond.laysFinal "PoliteGatherer$Ranking" "PoliteGatherer$Ranking" "web" "LPoliteGatherer$Web;" ∈ tables_1 := qr1 (List.mem_of_getElem? (i := 166) rfl)
theorem q168 : Jvm.Cond.laysFinal "PoliteGatherer$Ranking" "PoliteGatherer$Ranking" "gathering" "LPoliteGatherer$Gathering;" ∈ tables_1 := qr1 (List.mem_of_getElem? (i := 168) rfl)
theorem q170 : Jvm.Cond.laysFinal "PoliteGatherer$Ranking" "PoliteGatherer$Ranking" "documents" "LPoliteGatherer$Row;" ∈ tables_1 := qr1 (List.mem_of_getElem? (i := 170) rfl)
theorem q172 : Jvm.Cond.laysFinal "PoliteGatherer$Ranking" "PoliteGatherer$Ranking" "leads" "[[I" ∈ tables_1 := qr1 (List.mem_of_getElem? (i := 172) rfl)
theorem q174 : Jvm.Cond.laysFinal "PoliteGatherer$Ranking" "PoliteGatherer$Ranking" "leading" "[I" ∈ tables_1 := qr1 (List.mem_of_getElem? (i := 174) rfl)
theorem q176 : Jvm.Cond.laysFinal "PoliteGatherer$Ranking" "PoliteGatherer$Ranking" "ranks" "[J" ∈ tables_1 := qr1 (List.mem_of_getElem? (i := 176) rfl)
theorem q178 : Jvm.Cond.laysFinal "PoliteGatherer$Ranking" "PoliteGatherer$Ranking" "sums" "[J" ∈ tables_1 := qr1 (List.mem_of_getElem? (i := 178) rfl)
theorem q180 : Jvm.Cond.laysFinal "PoliteGatherer$Ranking" "PoliteGatherer$Ranking" "scores" "[J" ∈ tables_1 := qr1 (List.mem_of_getElem? (i := 180) rfl)
theorem q183 : Jvm.Cond.arrayClass Jvm.ClassFile.FieldType.long ∈ tables_1 := qr1 (List.mem_of_getElem? (i := 183) rfl)
theorem q184 : Jvm.Cond.fieldLink "PoliteGatherer" (10 : Nat) "PoliteGatherer" "web" "LPoliteGatherer$Web;" ∈ tables_1 := qr1 (List.mem_of_getElem? (i := 184) rfl)
theorem q185 : Jvm.Cond.fieldLink "PoliteGatherer" (21 : Nat) "PoliteGatherer" "gathering" "LPoliteGatherer$Gathering;" ∈ tables_1 := qr1 (List.mem_of_getElem? (i := 185) rfl)
theorem q186 : Jvm.Cond.fieldLink "PoliteGatherer" (30 : Nat) "PoliteGatherer" "ranking" "LPoliteGatherer$Ranking;" ∈ tables_1 := qr1 (List.mem_of_getElem? (i := 186) rfl)
theorem q187 : Jvm.Cond.fieldLink "PoliteGatherer" (34 : Nat) "PoliteGatherer" "underWay" "Z" ∈ tables_1 := qr1 (List.mem_of_getElem? (i := 187) rfl)
theorem q188 : Jvm.Cond.laysFinal "PoliteGatherer" "PoliteGatherer" "web" "LPoliteGatherer$Web;" ∈ tables_1 := qr1 (List.mem_of_getElem? (i := 188) rfl)
theorem q190 : Jvm.Cond.laysFinal "PoliteGatherer" "PoliteGatherer" "gathering" "LPoliteGatherer$Gathering;" ∈ tables_1 := qr1 (List.mem_of_getElem? (i := 190) rfl)
theorem q192 : Jvm.Cond.laysFinal "PoliteGatherer" "PoliteGatherer" "ranking" "LPoliteGatherer$Ranking;" ∈ tables_1 := qr1 (List.mem_of_getElem? (i := 192) rfl)
theorem q194 : Jvm.Cond.lays "PoliteGatherer" "PoliteGatherer" "underWay" "Z" ∈ tables_1 := qr1 (List.mem_of_getElem? (i := 194) rfl)
theorem q197 : Jvm.Cond.methodLink "PoliteGathererLaw" (13 : Nat) ({ cls := "PoliteGatherer", name := "page", desc := "(II)I" } : Jvm.MethodName) ∈ tables_1 := qr1 (List.mem_of_getElem? (i := 197) rfl)
theorem q198 : Jvm.Cond.instanceMethod ({ cls := "PoliteGatherer", name := "page", desc := "(II)I" } : Jvm.MethodName) ∈ tables_1 := qr1 (List.mem_of_getElem? (i := 198) rfl)
theorem q199 : Jvm.Cond.selects "PoliteGatherer" ({ cls := "PoliteGatherer", name := "page", desc := "(II)I" } : Jvm.MethodName) ({ cls := "PoliteGatherer", name := "page", desc := "(II)I" } : Jvm.MethodName) ∈ tables_1 := qr1 (List.mem_of_getElem? (i := 199) rfl)
theorem q200 : Jvm.Cond.code ({ cls := "PoliteGatherer", name := "page", desc := "(II)I" } : Jvm.MethodName) prog_1_method_2_code (3 : Nat) (Option.some Jvm.ClassFile.FieldType.int) ∈ tables_1 := qr1 (List.mem_of_getElem? (i := 200) rfl)
theorem q201 : Jvm.Cond.methodLink "PoliteGatherer" (38 : Nat) ({ cls := "PoliteGatherer$Web", name := "addPage", desc := "(II)I" } : Jvm.MethodName) ∈ tables_1 := qr1 (List.mem_of_getElem? (i := 201) rfl)
theorem q202 : Jvm.Cond.instanceMethod ({ cls := "PoliteGatherer$Web", name := "addPage", desc := "(II)I" } : Jvm.MethodName) ∈ tables_1 := qr1 (List.mem_of_getElem? (i := 202) rfl)
theorem q203 : Jvm.Cond.selects "PoliteGatherer$Web" ({ cls := "PoliteGatherer$Web", name := "addPage", desc := "(II)I" } : Jvm.MethodName) ({ cls := "PoliteGatherer$Web", name := "addPage", desc := "(II)I" } : Jvm.MethodName) ∈ tables_1 := qr1 (List.mem_of_getElem? (i := 203) rfl)
theorem q204 : Jvm.Cond.code ({ cls := "PoliteGatherer$Web", name := "addPage", desc := "(II)I" } : Jvm.MethodName) prog_8_method_3_code (3 : Nat) (Option.some Jvm.ClassFile.FieldType.int) ∈ tables_1 := qr1 (List.mem_of_getElem? (i := 204) rfl)
theorem q205 : Jvm.Cond.methodLinkNest "PoliteGatherer$Web" (37 : Nat) ({ cls := "PoliteGatherer", name := "isHost", desc := "(I)Z" } : Jvm.MethodName) "PoliteGatherer" ∈ tables_1 := qr1 (List.mem_of_getElem? (i := 205) rfl)
theorem q206 : Jvm.Cond.static ({ cls := "PoliteGatherer", name := "isHost", desc := "(I)Z" } : Jvm.MethodName) ∈ tables_1 := qr1 (List.mem_of_getElem? (i := 206) rfl)
theorem q207 : Jvm.Cond.code ({ cls := "PoliteGatherer", name := "isHost", desc := "(I)Z" } : Jvm.MethodName) prog_1_method_24_code (1 : Nat) (Option.some Jvm.ClassFile.FieldType.boolean) ∈ tables_1 := qr1 (List.mem_of_getElem? (i := 207) rfl)
theorem q208 : Jvm.Cond.methodLink "PoliteGatherer" (46 : Nat) ({ cls := "PoliteGatherer", name := "isWithin", desc := "(III)Z" } : Jvm.MethodName) ∈ tables_1 := qr1 (List.mem_of_getElem? (i := 208) rfl)
theorem q209 : Jvm.Cond.static ({ cls := "PoliteGatherer", name := "isWithin", desc := "(III)Z" } : Jvm.MethodName) ∈ tables_1 := qr1 (List.mem_of_getElem? (i := 209) rfl)
theorem q210 : Jvm.Cond.code ({ cls := "PoliteGatherer", name := "isWithin", desc := "(III)Z" } : Jvm.MethodName) prog_1_method_23_code (3 : Nat) (Option.some Jvm.ClassFile.FieldType.boolean) ∈ tables_1 := qr1 (List.mem_of_getElem? (i := 210) rfl)
theorem q211 : Jvm.Cond.constant "PoliteGatherer$Web" (41 : Nat) (999999 : Int32) ∈ tables_1 := qr1 (List.mem_of_getElem? (i := 211) rfl)
theorem q212 : Jvm.Cond.methodLinkNest "PoliteGatherer$Web" (42 : Nat) ({ cls := "PoliteGatherer", name := "isWithin", desc := "(III)Z" } : Jvm.MethodName) "PoliteGatherer" ∈ tables_1 := qr1 (List.mem_of_getElem? (i := 212) rfl)
theorem q213 : Jvm.Cond.methodLink "PoliteGatherer$Web" (46 : Nat) ({ cls := "PoliteGatherer$Web", name := "isTaken", desc := "(II)Z" } : Jvm.MethodName) ∈ tables_1 := qr1 (List.mem_of_getElem? (i := 213) rfl)
theorem q215 : Jvm.Cond.instanceMethod ({ cls := "PoliteGatherer$Web", name := "isTaken", desc := "(II)Z" } : Jvm.MethodName) ∈ tables_1 := qr1 (List.mem_of_getElem? (i := 215) rfl)
theorem q216 : Jvm.Cond.code ({ cls := "PoliteGatherer$Web", name := "isTaken", desc := "(II)Z" } : Jvm.MethodName) prog_8_method_4_code (4 : Nat) (Option.some Jvm.ClassFile.FieldType.boolean) ∈ tables_1 := qr1 (List.mem_of_getElem? (i := 216) rfl)
theorem q217 : Jvm.Cond.instantiable "PoliteGatherer$Page" (6 : Nat) ∈ tables_1 := qr1 (List.mem_of_getElem? (i := 217) rfl)
theorem q218 : Jvm.Cond.methodLink "PoliteGatherer$Web" (50 : Nat) ({ cls := "PoliteGatherer$Page", name := "<init>", desc := "(II)V" } : Jvm.MethodName) ∈ tables_1 := qr1 (List.mem_of_getElem? (i := 218) rfl)
theorem q219 : Jvm.Cond.instanceMethod ({ cls := "PoliteGatherer$Page", name := "<init>", desc := "(II)V" } : Jvm.MethodName) ∈ tables_1 := qr1 (List.mem_of_getElem? (i := 219) rfl)
theorem q220 : Jvm.Cond.code ({ cls := "PoliteGatherer$Page", name := "<init>", desc := "(II)V" } : Jvm.MethodName) prog_4_method_1_code (3 : Nat) (Option.none : Option Jvm.ClassFile.FieldType) ∈ tables_1 := qr1 (List.mem_of_getElem? (i := 220) rfl)
theorem q221 : Jvm.Cond.methodLink "PoliteGatherer$Page" (3 : Nat) ({ cls := "java/lang/Object", name := "<init>", desc := "()V" } : Jvm.MethodName) ∈ tables_1 := qr1 (List.mem_of_getElem? (i := 221) rfl)
theorem q222 : Jvm.Cond.classLink "PoliteGatherer$Page" (18 : Nat) "PoliteGatherer$Row" ∈ tables_1 := qr1 (List.mem_of_getElem? (i := 222) rfl)
theorem q223 : Jvm.Cond.methodLink "PoliteGatherer$Page" (20 : Nat) ({ cls := "PoliteGatherer$Row", name := "<init>", desc := "(I)V" } : Jvm.MethodName) ∈ tables_1 := qr1 (List.mem_of_getElem? (i := 223) rfl)
theorem q224 : Jvm.Cond.fieldLink "PoliteGatherer$Page" (30 : Nat) "PoliteGatherer$Reply" "HERE" "LPoliteGatherer$Reply;" ∈ tables_1 := qr1 (List.mem_of_getElem? (i := 224) rfl)
theorem q225 : Jvm.Cond.laysStatic "PoliteGatherer$Reply" "HERE" "LPoliteGatherer$Reply;" ∈ tables_1 := qr1 (List.mem_of_getElem? (i := 225) rfl)
theorem q226 : Jvm.Cond.fieldLink "PoliteGatherer$Page" (9 : Nat) "PoliteGatherer$Page" "host" "I" ∈ tables_1 := qr1 (List.mem_of_getElem? (i := 226) rfl)
theorem q227 : Jvm.Cond.fieldLinkNest "PoliteGatherer$Web" (53 : Nat) "PoliteGatherer$Page" "host" "I" "PoliteGatherer" ∈ tables_1 := qr1 (List.mem_of_getElem? (i := 227) rfl)
theorem q228 : Jvm.Cond.fieldLinkNest "PoliteGatherer$Gathering" (137 : Nat) "PoliteGatherer$Page" "host" "I" "PoliteGatherer" ∈ tables_1 := qr1 (List.mem_of_getElem? (i := 228) rfl)
theorem q229 : Jvm.Cond.fieldLink "PoliteGatherer$Page" (15 : Nat) "PoliteGatherer$Page" "path" "I" ∈ tables_1 := qr1 (List.mem_of_getElem? (i := 229) rfl)
theorem q230 : Jvm.Cond.fieldLinkNest "PoliteGatherer$Web" (56 : Nat) "PoliteGatherer$Page" "path" "I" "PoliteGatherer" ∈ tables_1 := qr1 (List.mem_of_getElem? (i := 230) rfl)
theorem q231 : Jvm.Cond.fieldLink "PoliteGatherer$Page" (23 : Nat) "PoliteGatherer$Page" "body" "LPoliteGatherer$Row;" ∈ tables_1 := qr1 (List.mem_of_getElem? (i := 231) rfl)
theorem q232 : Jvm.Cond.fieldLinkNest "PoliteGatherer$Ranking" (62 : Nat) "PoliteGatherer$Page" "body" "LPoliteGatherer$Row;" "PoliteGatherer" ∈ tables_1 := qr1 (List.mem_of_getElem? (i := 232) rfl)
theorem q233 : Jvm.Cond.fieldLinkNest "PoliteGatherer" (54 : Nat) "PoliteGatherer$Page" "body" "LPoliteGatherer$Row;" "PoliteGatherer" ∈ tables_1 := qr1 (List.mem_of_getElem? (i := 233) rfl)
theorem q234 : Jvm.Cond.fieldLink "PoliteGatherer$Page" (27 : Nat) "PoliteGatherer$Page" "links" "LPoliteGatherer$Row;" ∈ tables_1 := qr1 (List.mem_of_getElem? (i := 234) rfl)
theorem q235 : Jvm.Cond.fieldLinkNest "PoliteGatherer" (68 : Nat) "PoliteGatherer$Page" "links" "LPoliteGatherer$Row;" "PoliteGatherer" ∈ tables_1 := qr1 (List.mem_of_getElem? (i := 235) rfl)
theorem q236 : Jvm.Cond.fieldLinkNest "PoliteGatherer$Gathering" (99 : Nat) "PoliteGatherer$Page" "links" "LPoliteGatherer$Row;" "PoliteGatherer" ∈ tables_1 := qr1 (List.mem_of_getElem? (i := 236) rfl)
theorem q237 : Jvm.Cond.fieldLinkNest "PoliteGatherer$Ranking" (109 : Nat) "PoliteGatherer$Page" "links" "LPoliteGatherer$Row;" "PoliteGatherer" ∈ tables_1 := qr1 (List.mem_of_getElem? (i := 237) rfl)
theorem q238 : Jvm.Cond.fieldLink "PoliteGatherer$Page" (36 : Nat) "PoliteGatherer$Page" "reply" "LPoliteGatherer$Reply;" ∈ tables_1 := qr1 (List.mem_of_getElem? (i := 238) rfl)
theorem q239 : Jvm.Cond.fieldLinkNest "PoliteGatherer" (77 : Nat) "PoliteGatherer$Page" "reply" "LPoliteGatherer$Reply;" "PoliteGatherer" ∈ tables_1 := qr1 (List.mem_of_getElem? (i := 239) rfl)
theorem q240 : Jvm.Cond.fieldLinkNest "PoliteGatherer$Gathering" (113 : Nat) "PoliteGatherer$Page" "reply" "LPoliteGatherer$Reply;" "PoliteGatherer" ∈ tables_1 := qr2 (List.mem_of_getElem? (i := 0) rfl)
theorem q241 : Jvm.Cond.fieldLink "PoliteGatherer$Page" (39 : Nat) "PoliteGatherer$Page" "target" "I" ∈ tables_1 := qr2 (List.mem_of_getElem? (i := 1) rfl)
theorem q242 : Jvm.Cond.fieldLinkNest "PoliteGatherer" (80 : Nat) "PoliteGatherer$Page" "target" "I" "PoliteGatherer" ∈ tables_1 := qr2 (List.mem_of_getElem? (i := 2) rfl)
theorem q243 : Jvm.Cond.fieldLinkNest "PoliteGatherer$Gathering" (125 : Nat) "PoliteGatherer$Page" "target" "I" "PoliteGatherer" ∈ tables_1 := qr2 (List.mem_of_getElem? (i := 3) rfl)
theorem q244 : Jvm.Cond.laysFinal "PoliteGatherer$Page" "PoliteGatherer$Page" "host" "I" ∈ tables_1 := qr2 (List.mem_of_getElem? (i := 4) rfl)
theorem q246 : Jvm.Cond.laysFinal "PoliteGatherer$Page" "PoliteGatherer$Page" "path" "I" ∈ tables_1 := qr2 (List.mem_of_getElem? (i := 6) rfl)
theorem q248 : Jvm.Cond.laysFinal "PoliteGatherer$Page" "PoliteGatherer$Page" "body" "LPoliteGatherer$Row;" ∈ tables_1 := qr2 (List.mem_of_getElem? (i := 8) rfl)
theorem q250 : Jvm.Cond.laysFinal "PoliteGatherer$Page" "PoliteGatherer$Page" "links" "LPoliteGatherer$Row;" ∈ tables_1 := qr2 (List.mem_of_getElem? (i := 10) rfl)
theorem q252 : Jvm.Cond.lays "PoliteGatherer$Page" "PoliteGatherer$Page" "reply" "LPoliteGatherer$Reply;" ∈ tables_1 := qr2 (List.mem_of_getElem? (i := 12) rfl)
theorem q254 : Jvm.Cond.lays "PoliteGatherer$Page" "PoliteGatherer$Page" "target" "I" ∈ tables_1 := qr2 (List.mem_of_getElem? (i := 14) rfl)
theorem q257 : Jvm.Cond.methodLink "PoliteGathererLaw" (18 : Nat) ({ cls := "PoliteGatherer", name := "write", desc := "(II)Z" } : Jvm.MethodName) ∈ tables_1 := qr2 (List.mem_of_getElem? (i := 17) rfl)
theorem q258 : Jvm.Cond.instanceMethod ({ cls := "PoliteGatherer", name := "write", desc := "(II)Z" } : Jvm.MethodName) ∈ tables_1 := qr2 (List.mem_of_getElem? (i := 18) rfl)
theorem q259 : Jvm.Cond.selects "PoliteGatherer" ({ cls := "PoliteGatherer", name := "write", desc := "(II)Z" } : Jvm.MethodName) ({ cls := "PoliteGatherer", name := "write", desc := "(II)Z" } : Jvm.MethodName) ∈ tables_1 := qr2 (List.mem_of_getElem? (i := 19) rfl)
theorem q260 : Jvm.Cond.code ({ cls := "PoliteGatherer", name := "write", desc := "(II)Z" } : Jvm.MethodName) prog_1_method_3_code (3 : Nat) (Option.some Jvm.ClassFile.FieldType.boolean) ∈ tables_1 := qr2 (List.mem_of_getElem? (i := 20) rfl)
theorem q261 : Jvm.Cond.methodLink "PoliteGatherer" (42 : Nat) ({ cls := "PoliteGatherer", name := "canChange", desc := "(I)Z" } : Jvm.MethodName) ∈ tables_1 := qr2 (List.mem_of_getElem? (i := 21) rfl)
theorem q263 : Jvm.Cond.instanceMethod ({ cls := "PoliteGatherer", name := "canChange", desc := "(I)Z" } : Jvm.MethodName) ∈ tables_1 := qr2 (List.mem_of_getElem? (i := 23) rfl)
theorem q264 : Jvm.Cond.code ({ cls := "PoliteGatherer", name := "canChange", desc := "(I)Z" } : Jvm.MethodName) prog_1_method_22_code (2 : Nat) (Option.some Jvm.ClassFile.FieldType.boolean) ∈ tables_1 := qr2 (List.mem_of_getElem? (i := 24) rfl)
theorem q265 : Jvm.Cond.methodLink "PoliteGatherer" (65 : Nat) ({ cls := "PoliteGatherer$Web", name := "isPage", desc := "(I)Z" } : Jvm.MethodName) ∈ tables_1 := qr2 (List.mem_of_getElem? (i := 25) rfl)
theorem q266 : Jvm.Cond.instanceMethod ({ cls := "PoliteGatherer$Web", name := "isPage", desc := "(I)Z" } : Jvm.MethodName) ∈ tables_1 := qr2 (List.mem_of_getElem? (i := 26) rfl)
theorem q267 : Jvm.Cond.selects "PoliteGatherer$Web" ({ cls := "PoliteGatherer$Web", name := "isPage", desc := "(I)Z" } : Jvm.MethodName) ({ cls := "PoliteGatherer$Web", name := "isPage", desc := "(I)Z" } : Jvm.MethodName) ∈ tables_1 := qr2 (List.mem_of_getElem? (i := 27) rfl)
theorem q268 : Jvm.Cond.code ({ cls := "PoliteGatherer$Web", name := "isPage", desc := "(I)Z" } : Jvm.MethodName) prog_8_method_2_code (2 : Nat) (Option.some Jvm.ClassFile.FieldType.boolean) ∈ tables_1 := qr2 (List.mem_of_getElem? (i := 28) rfl)
theorem q269 : Jvm.Cond.methodLink "PoliteGatherer" (60 : Nat) ({ cls := "PoliteGatherer$Row", name := "add", desc := "(I)Z" } : Jvm.MethodName) ∈ tables_1 := qr2 (List.mem_of_getElem? (i := 29) rfl)
theorem q270 : Jvm.Cond.instanceMethod ({ cls := "PoliteGatherer$Row", name := "add", desc := "(I)Z" } : Jvm.MethodName) ∈ tables_1 := qr2 (List.mem_of_getElem? (i := 30) rfl)
theorem q271 : Jvm.Cond.selects "PoliteGatherer$Row" ({ cls := "PoliteGatherer$Row", name := "add", desc := "(I)Z" } : Jvm.MethodName) ({ cls := "PoliteGatherer$Row", name := "add", desc := "(I)Z" } : Jvm.MethodName) ∈ tables_1 := qr2 (List.mem_of_getElem? (i := 31) rfl)
theorem q272 : Jvm.Cond.code ({ cls := "PoliteGatherer$Row", name := "add", desc := "(I)Z" } : Jvm.MethodName) prog_7_method_2_code (2 : Nat) (Option.some Jvm.ClassFile.FieldType.boolean) ∈ tables_1 := qr2 (List.mem_of_getElem? (i := 32) rfl)
theorem q273 : Jvm.Cond.methodLink "PoliteGathererLaw" (23 : Nat) ({ cls := "PoliteGatherer", name := "link", desc := "(II)Z" } : Jvm.MethodName) ∈ tables_1 := qr2 (List.mem_of_getElem? (i := 33) rfl)
theorem q274 : Jvm.Cond.instanceMethod ({ cls := "PoliteGatherer", name := "link", desc := "(II)Z" } : Jvm.MethodName) ∈ tables_1 := qr2 (List.mem_of_getElem? (i := 34) rfl)
theorem q275 : Jvm.Cond.selects "PoliteGatherer" ({ cls := "PoliteGatherer", name := "link", desc := "(II)Z" } : Jvm.MethodName) ({ cls := "PoliteGatherer", name := "link", desc := "(II)Z" } : Jvm.MethodName) ∈ tables_1 := qr2 (List.mem_of_getElem? (i := 35) rfl)
theorem q276 : Jvm.Cond.code ({ cls := "PoliteGatherer", name := "link", desc := "(II)Z" } : Jvm.MethodName) prog_1_method_4_code (3 : Nat) (Option.some Jvm.ClassFile.FieldType.boolean) ∈ tables_1 := qr2 (List.mem_of_getElem? (i := 36) rfl)
theorem q277 : Jvm.Cond.methodLink "PoliteGathererLaw" (27 : Nat) ({ cls := "PoliteGatherer", name := "move", desc := "(II)Z" } : Jvm.MethodName) ∈ tables_1 := qr2 (List.mem_of_getElem? (i := 37) rfl)
theorem q278 : Jvm.Cond.instanceMethod ({ cls := "PoliteGatherer", name := "move", desc := "(II)Z" } : Jvm.MethodName) ∈ tables_1 := qr2 (List.mem_of_getElem? (i := 38) rfl)
theorem q279 : Jvm.Cond.selects "PoliteGatherer" ({ cls := "PoliteGatherer", name := "move", desc := "(II)Z" } : Jvm.MethodName) ({ cls := "PoliteGatherer", name := "move", desc := "(II)Z" } : Jvm.MethodName) ∈ tables_1 := qr2 (List.mem_of_getElem? (i := 39) rfl)
theorem q280 : Jvm.Cond.code ({ cls := "PoliteGatherer", name := "move", desc := "(II)Z" } : Jvm.MethodName) prog_1_method_5_code (3 : Nat) (Option.some Jvm.ClassFile.FieldType.boolean) ∈ tables_1 := qr2 (List.mem_of_getElem? (i := 40) rfl)
theorem q281 : Jvm.Cond.fieldLink "PoliteGatherer" (71 : Nat) "PoliteGatherer$Reply" "MOVED" "LPoliteGatherer$Reply;" ∈ tables_1 := qr2 (List.mem_of_getElem? (i := 41) rfl)
theorem q282 : Jvm.Cond.laysStatic "PoliteGatherer$Reply" "MOVED" "LPoliteGatherer$Reply;" ∈ tables_1 := qr2 (List.mem_of_getElem? (i := 42) rfl)
theorem q283 : Jvm.Cond.methodLink "PoliteGathererLaw" (31 : Nat) ({ cls := "PoliteGatherer", name := "drop", desc := "(I)Z" } : Jvm.MethodName) ∈ tables_1 := qr2 (List.mem_of_getElem? (i := 43) rfl)
theorem q284 : Jvm.Cond.instanceMethod ({ cls := "PoliteGatherer", name := "drop", desc := "(I)Z" } : Jvm.MethodName) ∈ tables_1 := qr2 (List.mem_of_getElem? (i := 44) rfl)
theorem q285 : Jvm.Cond.selects "PoliteGatherer" ({ cls := "PoliteGatherer", name := "drop", desc := "(I)Z" } : Jvm.MethodName) ({ cls := "PoliteGatherer", name := "drop", desc := "(I)Z" } : Jvm.MethodName) ∈ tables_1 := qr2 (List.mem_of_getElem? (i := 45) rfl)
theorem q286 : Jvm.Cond.code ({ cls := "PoliteGatherer", name := "drop", desc := "(I)Z" } : Jvm.MethodName) prog_1_method_6_code (2 : Nat) (Option.some Jvm.ClassFile.FieldType.boolean) ∈ tables_1 := qr2 (List.mem_of_getElem? (i := 46) rfl)
theorem q287 : Jvm.Cond.fieldLink "PoliteGatherer" (84 : Nat) "PoliteGatherer$Reply" "GONE" "LPoliteGatherer$Reply;" ∈ tables_1 := qr2 (List.mem_of_getElem? (i := 47) rfl)
theorem q288 : Jvm.Cond.laysStatic "PoliteGatherer$Reply" "GONE" "LPoliteGatherer$Reply;" ∈ tables_1 := qr2 (List.mem_of_getElem? (i := 48) rfl)
theorem q289 : Jvm.Cond.methodLink "PoliteGathererLaw" (36 : Nat) ({ cls := "PoliteGatherer", name := "rule", desc := "(IIZ)Z" } : Jvm.MethodName) ∈ tables_1 := qr2 (List.mem_of_getElem? (i := 49) rfl)
theorem q290 : Jvm.Cond.instanceMethod ({ cls := "PoliteGatherer", name := "rule", desc := "(IIZ)Z" } : Jvm.MethodName) ∈ tables_1 := qr2 (List.mem_of_getElem? (i := 50) rfl)
theorem q291 : Jvm.Cond.selects "PoliteGatherer" ({ cls := "PoliteGatherer", name := "rule", desc := "(IIZ)Z" } : Jvm.MethodName) ({ cls := "PoliteGatherer", name := "rule", desc := "(IIZ)Z" } : Jvm.MethodName) ∈ tables_1 := qr2 (List.mem_of_getElem? (i := 51) rfl)
theorem q292 : Jvm.Cond.code ({ cls := "PoliteGatherer", name := "rule", desc := "(IIZ)Z" } : Jvm.MethodName) prog_1_method_7_code (4 : Nat) (Option.some Jvm.ClassFile.FieldType.boolean) ∈ tables_1 := qr2 (List.mem_of_getElem? (i := 52) rfl)
theorem q293 : Jvm.Cond.methodLink "PoliteGatherer" (87 : Nat) ({ cls := "PoliteGatherer", name := "isHost", desc := "(I)Z" } : Jvm.MethodName) ∈ tables_1 := qr2 (List.mem_of_getElem? (i := 53) rfl)
theorem q294 : Jvm.Cond.constant "PoliteGatherer" (90 : Nat) (999999 : Int32) ∈ tables_1 := qr2 (List.mem_of_getElem? (i := 54) rfl)
theorem q295 : Jvm.Cond.methodLink "PoliteGatherer" (95 : Nat) ({ cls := "PoliteGatherer$Host", name := "addRule", desc := "(IZ)Z" } : Jvm.MethodName) ∈ tables_1 := qr2 (List.mem_of_getElem? (i := 55) rfl)
theorem q296 : Jvm.Cond.instanceMethod ({ cls := "PoliteGatherer$Host", name := "addRule", desc := "(IZ)Z" } : Jvm.MethodName) ∈ tables_1 := qr2 (List.mem_of_getElem? (i := 56) rfl)
theorem q297 : Jvm.Cond.selects "PoliteGatherer$Host" ({ cls := "PoliteGatherer$Host", name := "addRule", desc := "(IZ)Z" } : Jvm.MethodName) ({ cls := "PoliteGatherer$Host", name := "addRule", desc := "(IZ)Z" } : Jvm.MethodName) ∈ tables_1 := qr2 (List.mem_of_getElem? (i := 57) rfl)
theorem q298 : Jvm.Cond.code ({ cls := "PoliteGatherer$Host", name := "addRule", desc := "(IZ)Z" } : Jvm.MethodName) prog_3_method_2_code (3 : Nat) (Option.some Jvm.ClassFile.FieldType.boolean) ∈ tables_1 := qr2 (List.mem_of_getElem? (i := 58) rfl)
theorem q299 : Jvm.Cond.methodLink "PoliteGathererLaw" (41 : Nat) ({ cls := "PoliteGatherer", name := "first", desc := "(I)Z" } : Jvm.MethodName) ∈ tables_1 := qr2 (List.mem_of_getElem? (i := 59) rfl)
theorem q300 : Jvm.Cond.instanceMethod ({ cls := "PoliteGatherer", name := "first", desc := "(I)Z" } : Jvm.MethodName) ∈ tables_1 := qr2 (List.mem_of_getElem? (i := 60) rfl)
theorem q301 : Jvm.Cond.selects "PoliteGatherer" ({ cls := "PoliteGatherer", name := "first", desc := "(I)Z" } : Jvm.MethodName) ({ cls := "PoliteGatherer", name := "first", desc := "(I)Z" } : Jvm.MethodName) ∈ tables_1 := qr2 (List.mem_of_getElem? (i := 61) rfl)
theorem q302 : Jvm.Cond.code ({ cls := "PoliteGatherer", name := "first", desc := "(I)Z" } : Jvm.MethodName) prog_1_method_8_code (2 : Nat) (Option.some Jvm.ClassFile.FieldType.boolean) ∈ tables_1 := qr2 (List.mem_of_getElem? (i := 62) rfl)
theorem q303 : Jvm.Cond.methodLink "PoliteGathererLaw" (45 : Nat) ({ cls := "PoliteGatherer", name := "begin", desc := "(IIII)Z" } : Jvm.MethodName) ∈ tables_1 := qr2 (List.mem_of_getElem? (i := 63) rfl)
theorem q304 : Jvm.Cond.instanceMethod ({ cls := "PoliteGatherer", name := "begin", desc := "(IIII)Z" } : Jvm.MethodName) ∈ tables_1 := qr2 (List.mem_of_getElem? (i := 64) rfl)
theorem q305 : Jvm.Cond.selects "PoliteGatherer" ({ cls := "PoliteGatherer", name := "begin", desc := "(IIII)Z" } : Jvm.MethodName) ({ cls := "PoliteGatherer", name := "begin", desc := "(IIII)Z" } : Jvm.MethodName) ∈ tables_1 := qr2 (List.mem_of_getElem? (i := 65) rfl)
theorem q306 : Jvm.Cond.code ({ cls := "PoliteGatherer", name := "begin", desc := "(IIII)Z" } : Jvm.MethodName) prog_1_method_9_code (5 : Nat) (Option.some Jvm.ClassFile.FieldType.boolean) ∈ tables_1 := qr2 (List.mem_of_getElem? (i := 66) rfl)
theorem q307 : Jvm.Cond.methodLink "PoliteGatherer" (107 : Nat) ({ cls := "PoliteGatherer$Gathering", name := "startAnew", desc := "(IIII)V" } : Jvm.MethodName) ∈ tables_1 := qr2 (List.mem_of_getElem? (i := 67) rfl)
theorem q308 : Jvm.Cond.instanceMethod ({ cls := "PoliteGatherer$Gathering", name := "startAnew", desc := "(IIII)V" } : Jvm.MethodName) ∈ tables_1 := qr2 (List.mem_of_getElem? (i := 68) rfl)
theorem q309 : Jvm.Cond.selects "PoliteGatherer$Gathering" ({ cls := "PoliteGatherer$Gathering", name := "startAnew", desc := "(IIII)V" } : Jvm.MethodName) ({ cls := "PoliteGatherer$Gathering", name := "startAnew", desc := "(IIII)V" } : Jvm.MethodName) ∈ tables_1 := qr2 (List.mem_of_getElem? (i := 69) rfl)
theorem q310 : Jvm.Cond.code ({ cls := "PoliteGatherer$Gathering", name := "startAnew", desc := "(IIII)V" } : Jvm.MethodName) prog_2_method_2_code (5 : Nat) (Option.none : Option Jvm.ClassFile.FieldType) ∈ tables_1 := qr2 (List.mem_of_getElem? (i := 70) rfl)
theorem q311 : Jvm.Cond.methodLink "PoliteGatherer$Gathering" (50 : Nat) ({ cls := "PoliteGatherer$Row", name := "cutTo", desc := "(I)V" } : Jvm.MethodName) ∈ tables_1 := qr2 (List.mem_of_getElem? (i := 71) rfl)
theorem q312 : Jvm.Cond.instanceMethod ({ cls := "PoliteGatherer$Row", name := "cutTo", desc := "(I)V" } : Jvm.MethodName) ∈ tables_1 := qr2 (List.mem_of_getElem? (i := 72) rfl)
theorem q313 : Jvm.Cond.selects "PoliteGatherer$Row" ({ cls := "PoliteGatherer$Row", name := "cutTo", desc := "(I)V" } : Jvm.MethodName) ({ cls := "PoliteGatherer$Row", name := "cutTo", desc := "(I)V" } : Jvm.MethodName) ∈ tables_1 := qr2 (List.mem_of_getElem? (i := 73) rfl)
theorem q314 : Jvm.Cond.code ({ cls := "PoliteGatherer$Row", name := "cutTo", desc := "(I)V" } : Jvm.MethodName) prog_7_method_6_code (2 : Nat) (Option.none : Option Jvm.ClassFile.FieldType) ∈ tables_1 := qr2 (List.mem_of_getElem? (i := 74) rfl)
theorem q315 : Jvm.Cond.methodLink "PoliteGatherer$Row" (19 : Nat) ({ cls := "java/lang/Math", name := "min", desc := "(II)I" } : Jvm.MethodName) ∈ tables_1 := qr2 (List.mem_of_getElem? (i := 75) rfl)
theorem q316 : Jvm.Cond.static ({ cls := "java/lang/Math", name := "min", desc := "(II)I" } : Jvm.MethodName) ∈ tables_1 := qr2 (List.mem_of_getElem? (i := 76) rfl)
theorem q317 : Jvm.Cond.code ({ cls := "java/lang/Math", name := "min", desc := "(II)I" } : Jvm.MethodName) prog_12_method_69_code (2 : Nat) (Option.some Jvm.ClassFile.FieldType.int) ∈ tables_1 := qr2 (List.mem_of_getElem? (i := 77) rfl)
theorem q318 : Jvm.Cond.methodLink "PoliteGatherer$Gathering" (62 : Nat) ({ cls := "PoliteGatherer$Gathering", name := "setAllFrom", desc := "(I)V" } : Jvm.MethodName) ∈ tables_1 := qr2 (List.mem_of_getElem? (i := 78) rfl)
theorem q320 : Jvm.Cond.instanceMethod ({ cls := "PoliteGatherer$Gathering", name := "setAllFrom", desc := "(I)V" } : Jvm.MethodName) ∈ tables_1 := qr2 (List.mem_of_getElem? (i := 80) rfl)
theorem q321 : Jvm.Cond.code ({ cls := "PoliteGatherer$Gathering", name := "setAllFrom", desc := "(I)V" } : Jvm.MethodName) prog_2_method_9_code (3 : Nat) (Option.none : Option Jvm.ClassFile.FieldType) ∈ tables_1 := qr2 (List.mem_of_getElem? (i := 81) rfl)
theorem q322 : Jvm.Cond.methodLink "PoliteGatherer$Gathering" (70 : Nat) ({ cls := "PoliteGatherer$Gathering", name := "enqueueAll", desc := "(LPoliteGatherer$Row;I)V" } : Jvm.MethodName) ∈ tables_1 := qr2 (List.mem_of_getElem? (i := 82) rfl)
theorem q324 : Jvm.Cond.instanceMethod ({ cls := "PoliteGatherer$Gathering", name := "enqueueAll", desc := "(LPoliteGatherer$Row;I)V" } : Jvm.MethodName) ∈ tables_1 := qr2 (List.mem_of_getElem? (i := 84) rfl)
theorem q325 : Jvm.Cond.code ({ cls := "PoliteGatherer$Gathering", name := "enqueueAll", desc := "(LPoliteGatherer$Row;I)V" } : Jvm.MethodName) prog_2_method_8_code (5 : Nat) (Option.none : Option Jvm.ClassFile.FieldType) ∈ tables_1 := qr2 (List.mem_of_getElem? (i := 85) rfl)
theorem q326 : Jvm.Cond.methodLink "PoliteGatherer$Gathering" (80 : Nat) ({ cls := "PoliteGatherer$Row", name := "at", desc := "(I)I" } : Jvm.MethodName) ∈ tables_1 := qr2 (List.mem_of_getElem? (i := 86) rfl)
theorem q327 : Jvm.Cond.instanceMethod ({ cls := "PoliteGatherer$Row", name := "at", desc := "(I)I" } : Jvm.MethodName) ∈ tables_1 := qr2 (List.mem_of_getElem? (i := 87) rfl)
theorem q328 : Jvm.Cond.selects "PoliteGatherer$Row" ({ cls := "PoliteGatherer$Row", name := "at", desc := "(I)I" } : Jvm.MethodName) ({ cls := "PoliteGatherer$Row", name := "at", desc := "(I)I" } : Jvm.MethodName) ∈ tables_1 := qr2 (List.mem_of_getElem? (i := 88) rfl)
theorem q329 : Jvm.Cond.code ({ cls := "PoliteGatherer$Row", name := "at", desc := "(I)I" } : Jvm.MethodName) prog_7_method_3_code (2 : Nat) (Option.some Jvm.ClassFile.FieldType.int) ∈ tables_1 := qr2 (List.mem_of_getElem? (i := 89) rfl)
theorem q330 : Jvm.Cond.methodLink "PoliteGatherer$Gathering" (88 : Nat) ({ cls := "PoliteGatherer$Row", name := "holds", desc := "(I)Z" } : Jvm.MethodName) ∈ tables_1 := qr2 (List.mem_of_getElem? (i := 90) rfl)
theorem q331 : Jvm.Cond.instanceMethod ({ cls := "PoliteGatherer$Row", name := "holds", desc := "(I)Z" } : Jvm.MethodName) ∈ tables_1 := qr2 (List.mem_of_getElem? (i := 91) rfl)
theorem q332 : Jvm.Cond.selects "PoliteGatherer$Row" ({ cls := "PoliteGatherer$Row", name := "holds", desc := "(I)Z" } : Jvm.MethodName) ({ cls := "PoliteGatherer$Row", name := "holds", desc := "(I)Z" } : Jvm.MethodName) ∈ tables_1 := qr2 (List.mem_of_getElem? (i := 92) rfl)
theorem q333 : Jvm.Cond.code ({ cls := "PoliteGatherer$Row", name := "holds", desc := "(I)Z" } : Jvm.MethodName) prog_7_method_4_code (3 : Nat) (Option.some Jvm.ClassFile.FieldType.boolean) ∈ tables_1 := qr2 (List.mem_of_getElem? (i := 93) rfl)
theorem q334 : Jvm.Cond.methodLink "PoliteGatherer$Gathering" (92 : Nat) ({ cls := "PoliteGatherer$Row", name := "add", desc := "(I)Z" } : Jvm.MethodName) ∈ tables_1 := qr2 (List.mem_of_getElem? (i := 94) rfl)
theorem q335 : Jvm.Cond.methodLink "PoliteGatherer$Gathering" (74 : Nat) ({ cls := "PoliteGatherer$Gathering", name := "setMark", desc := "()V" } : Jvm.MethodName) ∈ tables_1 := qr2 (List.mem_of_getElem? (i := 95) rfl)
theorem q337 : Jvm.Cond.instanceMethod ({ cls := "PoliteGatherer$Gathering", name := "setMark", desc := "()V" } : Jvm.MethodName) ∈ tables_1 := qr2 (List.mem_of_getElem? (i := 97) rfl)
theorem q338 : Jvm.Cond.code ({ cls := "PoliteGatherer$Gathering", name := "setMark", desc := "()V" } : Jvm.MethodName) prog_2_method_10_code (1 : Nat) (Option.none : Option Jvm.ClassFile.FieldType) ∈ tables_1 := qr2 (List.mem_of_getElem? (i := 98) rfl)
theorem q339 : Jvm.Cond.methodLink "PoliteGathererLaw" (50 : Nat) ({ cls := "PoliteGatherer", name := "stop", desc := "()Z" } : Jvm.MethodName) ∈ tables_1 := qr2 (List.mem_of_getElem? (i := 99) rfl)
theorem q340 : Jvm.Cond.instanceMethod ({ cls := "PoliteGatherer", name := "stop", desc := "()Z" } : Jvm.MethodName) ∈ tables_1 := qr2 (List.mem_of_getElem? (i := 100) rfl)
theorem q341 : Jvm.Cond.selects "PoliteGatherer" ({ cls := "PoliteGatherer", name := "stop", desc := "()Z" } : Jvm.MethodName) ({ cls := "PoliteGatherer", name := "stop", desc := "()Z" } : Jvm.MethodName) ∈ tables_1 := qr2 (List.mem_of_getElem? (i := 101) rfl)
theorem q342 : Jvm.Cond.code ({ cls := "PoliteGatherer", name := "stop", desc := "()Z" } : Jvm.MethodName) prog_1_method_10_code (1 : Nat) (Option.some Jvm.ClassFile.FieldType.boolean) ∈ tables_1 := qr2 (List.mem_of_getElem? (i := 102) rfl)
theorem q343 : Jvm.Cond.methodLink "PoliteGathererLaw" (55 : Nat) ({ cls := "PoliteGatherer", name := "work", desc := "(I)I" } : Jvm.MethodName) ∈ tables_1 := qr2 (List.mem_of_getElem? (i := 103) rfl)
theorem q344 : Jvm.Cond.instanceMethod ({ cls := "PoliteGatherer", name := "work", desc := "(I)I" } : Jvm.MethodName) ∈ tables_1 := qr2 (List.mem_of_getElem? (i := 104) rfl)
theorem q345 : Jvm.Cond.selects "PoliteGatherer" ({ cls := "PoliteGatherer", name := "work", desc := "(I)I" } : Jvm.MethodName) ({ cls := "PoliteGatherer", name := "work", desc := "(I)I" } : Jvm.MethodName) ∈ tables_1 := qr2 (List.mem_of_getElem? (i := 105) rfl)
theorem q346 : Jvm.Cond.code ({ cls := "PoliteGatherer", name := "work", desc := "(I)I" } : Jvm.MethodName) prog_1_method_11_code (4 : Nat) (Option.some Jvm.ClassFile.FieldType.int) ∈ tables_1 := qr2 (List.mem_of_getElem? (i := 106) rfl)
theorem q347 : Jvm.Cond.methodLink "PoliteGatherer" (114 : Nat) ({ cls := "PoliteGatherer$Gathering", name := "entriesLeft", desc := "()I" } : Jvm.MethodName) ∈ tables_1 := qr2 (List.mem_of_getElem? (i := 107) rfl)
theorem q348 : Jvm.Cond.instanceMethod ({ cls := "PoliteGatherer$Gathering", name := "entriesLeft", desc := "()I" } : Jvm.MethodName) ∈ tables_1 := qr2 (List.mem_of_getElem? (i := 108) rfl)
theorem q349 : Jvm.Cond.selects "PoliteGatherer$Gathering" ({ cls := "PoliteGatherer$Gathering", name := "entriesLeft", desc := "()I" } : Jvm.MethodName) ({ cls := "PoliteGatherer$Gathering", name := "entriesLeft", desc := "()I" } : Jvm.MethodName) ∈ tables_1 := qr2 (List.mem_of_getElem? (i := 109) rfl)
theorem q350 : Jvm.Cond.code ({ cls := "PoliteGatherer$Gathering", name := "entriesLeft", desc := "()I" } : Jvm.MethodName) prog_2_method_3_code (1 : Nat) (Option.some Jvm.ClassFile.FieldType.int) ∈ tables_1 := qr2 (List.mem_of_getElem? (i := 110) rfl)
theorem q351 : Jvm.Cond.methodLink "PoliteGatherer" (118 : Nat) ({ cls := "PoliteGatherer$Gathering", name := "handleEntry", desc := "()V" } : Jvm.MethodName) ∈ tables_1 := qr2 (List.mem_of_getElem? (i := 111) rfl)
theorem q352 : Jvm.Cond.instanceMethod ({ cls := "PoliteGatherer$Gathering", name := "handleEntry", desc := "()V" } : Jvm.MethodName) ∈ tables_1 := qr2 (List.mem_of_getElem? (i := 112) rfl)
theorem q353 : Jvm.Cond.selects "PoliteGatherer$Gathering" ({ cls := "PoliteGatherer$Gathering", name := "handleEntry", desc := "()V" } : Jvm.MethodName) ({ cls := "PoliteGatherer$Gathering", name := "handleEntry", desc := "()V" } : Jvm.MethodName) ∈ tables_1 := qr2 (List.mem_of_getElem? (i := 113) rfl)
theorem q354 : Jvm.Cond.code ({ cls := "PoliteGatherer$Gathering", name := "handleEntry", desc := "()V" } : Jvm.MethodName) prog_2_method_4_code (4 : Nat) (Option.none : Option Jvm.ClassFile.FieldType) ∈ tables_1 := qr2 (List.mem_of_getElem? (i := 114) rfl)
theorem q355 : Jvm.Cond.methodLink "PoliteGatherer$Gathering" (84 : Nat) ({ cls := "PoliteGatherer$Gathering", name := "chase", desc := "(IZ)I" } : Jvm.MethodName) ∈ tables_1 := qr2 (List.mem_of_getElem? (i := 115) rfl)
theorem q356 : Jvm.Cond.instanceMethod ({ cls := "PoliteGatherer$Gathering", name := "chase", desc := "(IZ)I" } : Jvm.MethodName) ∈ tables_1 := qr2 (List.mem_of_getElem? (i := 116) rfl)
theorem q357 : Jvm.Cond.selects "PoliteGatherer$Gathering" ({ cls := "PoliteGatherer$Gathering", name := "chase", desc := "(IZ)I" } : Jvm.MethodName) ({ cls := "PoliteGatherer$Gathering", name := "chase", desc := "(IZ)I" } : Jvm.MethodName) ∈ tables_1 := qr2 (List.mem_of_getElem? (i := 117) rfl)
theorem q358 : Jvm.Cond.code ({ cls := "PoliteGatherer$Gathering", name := "chase", desc := "(IZ)I" } : Jvm.MethodName) prog_2_method_5_code (6 : Nat) (Option.some Jvm.ClassFile.FieldType.int) ∈ tables_1 := qr2 (List.mem_of_getElem? (i := 118) rfl)
theorem q359 : Jvm.Cond.methodLink "PoliteGatherer$Gathering" (107 : Nat) ({ cls := "PoliteGatherer$Web", name := "isAllowed", desc := "(I)Z" } : Jvm.MethodName) ∈ tables_1 := qr2 (List.mem_of_getElem? (i := 119) rfl)
theorem q360 : Jvm.Cond.instanceMethod ({ cls := "PoliteGatherer$Web", name := "isAllowed", desc := "(I)Z" } : Jvm.MethodName) ∈ tables_1 := qr2 (List.mem_of_getElem? (i := 120) rfl)
theorem q361 : Jvm.Cond.selects "PoliteGatherer$Web" ({ cls := "PoliteGatherer$Web", name := "isAllowed", desc := "(I)Z" } : Jvm.MethodName) ({ cls := "PoliteGatherer$Web", name := "isAllowed", desc := "(I)Z" } : Jvm.MethodName) ∈ tables_1 := qr2 (List.mem_of_getElem? (i := 121) rfl)
theorem q362 : Jvm.Cond.code ({ cls := "PoliteGatherer$Web", name := "isAllowed", desc := "(I)Z" } : Jvm.MethodName) prog_8_method_5_code (2 : Nat) (Option.some Jvm.ClassFile.FieldType.boolean) ∈ tables_1 := qr2 (List.mem_of_getElem? (i := 122) rfl)
theorem q363 : Jvm.Cond.methodLink "PoliteGatherer$Web" (59 : Nat) ({ cls := "PoliteGatherer$Host", name := "allowsPath", desc := "(I)Z" } : Jvm.MethodName) ∈ tables_1 := qr2 (List.mem_of_getElem? (i := 123) rfl)
theorem q364 : Jvm.Cond.instanceMethod ({ cls := "PoliteGatherer$Host", name := "allowsPath", desc := "(I)Z" } : Jvm.MethodName) ∈ tables_1 := qr2 (List.mem_of_getElem? (i := 124) rfl)
theorem q365 : Jvm.Cond.selects "PoliteGatherer$Host" ({ cls := "PoliteGatherer$Host", name := "allowsPath", desc := "(I)Z" } : Jvm.MethodName) ({ cls := "PoliteGatherer$Host", name := "allowsPath", desc := "(I)Z" } : Jvm.MethodName) ∈ tables_1 := qr2 (List.mem_of_getElem? (i := 125) rfl)
theorem q366 : Jvm.Cond.code ({ cls := "PoliteGatherer$Host", name := "allowsPath", desc := "(I)Z" } : Jvm.MethodName) prog_3_method_3_code (6 : Nat) (Option.some Jvm.ClassFile.FieldType.boolean) ∈ tables_1 := qr2 (List.mem_of_getElem? (i := 126) rfl)
theorem q367 : Jvm.Cond.methodLink "PoliteGatherer$Host" (23 : Nat) ({ cls := "PoliteGatherer$Host", name := "isPrefix", desc := "(II)Z" } : Jvm.MethodName) ∈ tables_1 := qr2 (List.mem_of_getElem? (i := 127) rfl)
theorem q368 : Jvm.Cond.static ({ cls := "PoliteGatherer$Host", name := "isPrefix", desc := "(II)Z" } : Jvm.MethodName) ∈ tables_1 := qr2 (List.mem_of_getElem? (i := 128) rfl)
theorem q369 : Jvm.Cond.code ({ cls := "PoliteGatherer$Host", name := "isPrefix", desc := "(II)Z" } : Jvm.MethodName) prog_3_method_4_code (3 : Nat) (Option.some Jvm.ClassFile.FieldType.boolean) ∈ tables_1 := qr2 (List.mem_of_getElem? (i := 129) rfl)
theorem q370 : Jvm.Cond.methodLink "PoliteGatherer$Gathering" (110 : Nat) ({ cls := "PoliteGatherer$Gathering", name := "fetch", desc := "(I)V" } : Jvm.MethodName) ∈ tables_1 := qr2 (List.mem_of_getElem? (i := 130) rfl)
theorem q372 : Jvm.Cond.instanceMethod ({ cls := "PoliteGatherer$Gathering", name := "fetch", desc := "(I)V" } : Jvm.MethodName) ∈ tables_1 := qr2 (List.mem_of_getElem? (i := 132) rfl)
theorem q373 : Jvm.Cond.code ({ cls := "PoliteGatherer$Gathering", name := "fetch", desc := "(I)V" } : Jvm.MethodName) prog_2_method_7_code (4 : Nat) (Option.none : Option Jvm.ClassFile.FieldType) ∈ tables_1 := qr2 (List.mem_of_getElem? (i := 133) rfl)
theorem q374 : Jvm.Cond.methodLink "PoliteGatherer$Gathering" (140 : Nat) ({ cls := "java/lang/Math", name := "max", desc := "(II)I" } : Jvm.MethodName) ∈ tables_1 := qr2 (List.mem_of_getElem? (i := 134) rfl)
theorem q375 : Jvm.Cond.static ({ cls := "java/lang/Math", name := "max", desc := "(II)I" } : Jvm.MethodName) ∈ tables_1 := qr2 (List.mem_of_getElem? (i := 135) rfl)
theorem q376 : Jvm.Cond.code ({ cls := "java/lang/Math", name := "max", desc := "(II)I" } : Jvm.MethodName) prog_12_method_65_code (2 : Nat) (Option.some Jvm.ClassFile.FieldType.int) ∈ tables_1 := qr2 (List.mem_of_getElem? (i := 136) rfl)
theorem q377 : Jvm.Cond.fieldLink "PoliteGatherer$Gathering" (117 : Nat) "PoliteGatherer$Reply" "HERE" "LPoliteGatherer$Reply;" ∈ tables_1 := qr2 (List.mem_of_getElem? (i := 137) rfl)
theorem q378 : Jvm.Cond.fieldLink "PoliteGatherer$Gathering" (122 : Nat) "PoliteGatherer$Reply" "GONE" "LPoliteGatherer$Reply;" ∈ tables_1 := qr2 (List.mem_of_getElem? (i := 138) rfl)
theorem q379 : Jvm.Cond.methodLink "PoliteGathererLaw" (60 : Nat) ({ cls := "PoliteGatherer", name := "crash", desc := "()I" } : Jvm.MethodName) ∈ tables_1 := qr2 (List.mem_of_getElem? (i := 139) rfl)
theorem q380 : Jvm.Cond.instanceMethod ({ cls := "PoliteGatherer", name := "crash", desc := "()I" } : Jvm.MethodName) ∈ tables_1 := qr2 (List.mem_of_getElem? (i := 140) rfl)
theorem q381 : Jvm.Cond.selects "PoliteGatherer" ({ cls := "PoliteGatherer", name := "crash", desc := "()I" } : Jvm.MethodName) ({ cls := "PoliteGatherer", name := "crash", desc := "()I" } : Jvm.MethodName) ∈ tables_1 := qr2 (List.mem_of_getElem? (i := 141) rfl)
theorem q382 : Jvm.Cond.code ({ cls := "PoliteGatherer", name := "crash", desc := "()I" } : Jvm.MethodName) prog_1_method_12_code (1 : Nat) (Option.some Jvm.ClassFile.FieldType.int) ∈ tables_1 := qr2 (List.mem_of_getElem? (i := 142) rfl)
theorem q383 : Jvm.Cond.methodLink "PoliteGatherer" (121 : Nat) ({ cls := "PoliteGatherer$Gathering", name := "fallBack", desc := "()I" } : Jvm.MethodName) ∈ tables_1 := qr2 (List.mem_of_getElem? (i := 143) rfl)
theorem q384 : Jvm.Cond.instanceMethod ({ cls := "PoliteGatherer$Gathering", name := "fallBack", desc := "()I" } : Jvm.MethodName) ∈ tables_1 := qr2 (List.mem_of_getElem? (i := 144) rfl)
theorem q385 : Jvm.Cond.selects "PoliteGatherer$Gathering" ({ cls := "PoliteGatherer$Gathering", name := "fallBack", desc := "()I" } : Jvm.MethodName) ({ cls := "PoliteGatherer$Gathering", name := "fallBack", desc := "()I" } : Jvm.MethodName) ∈ tables_1 := qr2 (List.mem_of_getElem? (i := 145) rfl)
theorem q386 : Jvm.Cond.code ({ cls := "PoliteGatherer$Gathering", name := "fallBack", desc := "()I" } : Jvm.MethodName) prog_2_method_6_code (2 : Nat) (Option.some Jvm.ClassFile.FieldType.int) ∈ tables_1 := qr2 (List.mem_of_getElem? (i := 146) rfl)
theorem q387 : Jvm.Cond.methodLink "PoliteGathererLaw" (65 : Nat) ({ cls := "PoliteGatherer", name := "allowed", desc := "(I)Z" } : Jvm.MethodName) ∈ tables_1 := qr2 (List.mem_of_getElem? (i := 147) rfl)
theorem q388 : Jvm.Cond.instanceMethod ({ cls := "PoliteGatherer", name := "allowed", desc := "(I)Z" } : Jvm.MethodName) ∈ tables_1 := qr2 (List.mem_of_getElem? (i := 148) rfl)
theorem q389 : Jvm.Cond.selects "PoliteGatherer" ({ cls := "PoliteGatherer", name := "allowed", desc := "(I)Z" } : Jvm.MethodName) ({ cls := "PoliteGatherer", name := "allowed", desc := "(I)Z" } : Jvm.MethodName) ∈ tables_1 := qr2 (List.mem_of_getElem? (i := 149) rfl)
theorem q390 : Jvm.Cond.code ({ cls := "PoliteGatherer", name := "allowed", desc := "(I)Z" } : Jvm.MethodName) prog_1_method_13_code (2 : Nat) (Option.some Jvm.ClassFile.FieldType.boolean) ∈ tables_1 := qr2 (List.mem_of_getElem? (i := 150) rfl)
theorem q391 : Jvm.Cond.methodLink "PoliteGatherer" (124 : Nat) ({ cls := "PoliteGatherer$Web", name := "isAllowed", desc := "(I)Z" } : Jvm.MethodName) ∈ tables_1 := qr2 (List.mem_of_getElem? (i := 151) rfl)
theorem q392 : Jvm.Cond.methodLink "PoliteGathererLaw" (69 : Nat) ({ cls := "PoliteGatherer", name := "found", desc := "(I)I" } : Jvm.MethodName) ∈ tables_1 := qr2 (List.mem_of_getElem? (i := 152) rfl)
theorem q393 : Jvm.Cond.instanceMethod ({ cls := "PoliteGatherer", name := "found", desc := "(I)I" } : Jvm.MethodName) ∈ tables_1 := qr2 (List.mem_of_getElem? (i := 153) rfl)
theorem q394 : Jvm.Cond.selects "PoliteGatherer" ({ cls := "PoliteGatherer", name := "found", desc := "(I)I" } : Jvm.MethodName) ({ cls := "PoliteGatherer", name := "found", desc := "(I)I" } : Jvm.MethodName) ∈ tables_1 := qr2 (List.mem_of_getElem? (i := 154) rfl)
theorem q395 : Jvm.Cond.code ({ cls := "PoliteGatherer", name := "found", desc := "(I)I" } : Jvm.MethodName) prog_1_method_14_code (2 : Nat) (Option.some Jvm.ClassFile.FieldType.int) ∈ tables_1 := qr2 (List.mem_of_getElem? (i := 155) rfl)
theorem q396 : Jvm.Cond.methodLink "PoliteGatherer" (127 : Nat) ({ cls := "PoliteGatherer$Gathering", name := "chase", desc := "(IZ)I" } : Jvm.MethodName) ∈ tables_1 := qr2 (List.mem_of_getElem? (i := 156) rfl)
theorem q397 : Jvm.Cond.methodLink "PoliteGathererLaw" (73 : Nat) ({ cls := "PoliteGatherer", name := "clock", desc := "()I" } : Jvm.MethodName) ∈ tables_1 := qr2 (List.mem_of_getElem? (i := 157) rfl)
theorem q398 : Jvm.Cond.instanceMethod ({ cls := "PoliteGatherer", name := "clock", desc := "()I" } : Jvm.MethodName) ∈ tables_1 := qr2 (List.mem_of_getElem? (i := 158) rfl)
theorem q399 : Jvm.Cond.selects "PoliteGatherer" ({ cls := "PoliteGatherer", name := "clock", desc := "()I" } : Jvm.MethodName) ({ cls := "PoliteGatherer", name := "clock", desc := "()I" } : Jvm.MethodName) ∈ tables_1 := qr2 (List.mem_of_getElem? (i := 159) rfl)
theorem q400 : Jvm.Cond.code ({ cls := "PoliteGatherer", name := "clock", desc := "()I" } : Jvm.MethodName) prog_1_method_15_code (1 : Nat) (Option.some Jvm.ClassFile.FieldType.int) ∈ tables_1 := qr2 (List.mem_of_getElem? (i := 160) rfl)
theorem q401 : Jvm.Cond.methodLink "PoliteGathererLaw" (77 : Nat) ({ cls := "PoliteGatherer", name := "fetches", desc := "()I" } : Jvm.MethodName) ∈ tables_1 := qr2 (List.mem_of_getElem? (i := 161) rfl)
theorem q402 : Jvm.Cond.instanceMethod ({ cls := "PoliteGatherer", name := "fetches", desc := "()I" } : Jvm.MethodName) ∈ tables_1 := qr2 (List.mem_of_getElem? (i := 162) rfl)
theorem q403 : Jvm.Cond.selects "PoliteGatherer" ({ cls := "PoliteGatherer", name := "fetches", desc := "()I" } : Jvm.MethodName) ({ cls := "PoliteGatherer", name := "fetches", desc := "()I" } : Jvm.MethodName) ∈ tables_1 := qr2 (List.mem_of_getElem? (i := 163) rfl)
theorem q404 : Jvm.Cond.code ({ cls := "PoliteGatherer", name := "fetches", desc := "()I" } : Jvm.MethodName) prog_1_method_16_code (1 : Nat) (Option.some Jvm.ClassFile.FieldType.int) ∈ tables_1 := qr2 (List.mem_of_getElem? (i := 164) rfl)
theorem q405 : Jvm.Cond.methodLink "PoliteGathererLaw" (81 : Nat) ({ cls := "PoliteGatherer", name := "waiting", desc := "()I" } : Jvm.MethodName) ∈ tables_1 := qr2 (List.mem_of_getElem? (i := 165) rfl)
theorem q406 : Jvm.Cond.instanceMethod ({ cls := "PoliteGatherer", name := "waiting", desc := "()I" } : Jvm.MethodName) ∈ tables_1 := qr2 (List.mem_of_getElem? (i := 166) rfl)
theorem q407 : Jvm.Cond.selects "PoliteGatherer" ({ cls := "PoliteGatherer", name := "waiting", desc := "()I" } : Jvm.MethodName) ({ cls := "PoliteGatherer", name := "waiting", desc := "()I" } : Jvm.MethodName) ∈ tables_1 := qr2 (List.mem_of_getElem? (i := 167) rfl)
theorem q408 : Jvm.Cond.code ({ cls := "PoliteGatherer", name := "waiting", desc := "()I" } : Jvm.MethodName) prog_1_method_17_code (1 : Nat) (Option.some Jvm.ClassFile.FieldType.int) ∈ tables_1 := qr2 (List.mem_of_getElem? (i := 168) rfl)
theorem q409 : Jvm.Cond.methodLink "PoliteGathererLaw" (85 : Nat) ({ cls := "PoliteGatherer", name := "corpusAt", desc := "(I)I" } : Jvm.MethodName) ∈ tables_1 := qr2 (List.mem_of_getElem? (i := 169) rfl)
theorem q410 : Jvm.Cond.instanceMethod ({ cls := "PoliteGatherer", name := "corpusAt", desc := "(I)I" } : Jvm.MethodName) ∈ tables_1 := qr2 (List.mem_of_getElem? (i := 170) rfl)
theorem q411 : Jvm.Cond.selects "PoliteGatherer" ({ cls := "PoliteGatherer", name := "corpusAt", desc := "(I)I" } : Jvm.MethodName) ({ cls := "PoliteGatherer", name := "corpusAt", desc := "(I)I" } : Jvm.MethodName) ∈ tables_1 := qr2 (List.mem_of_getElem? (i := 171) rfl)
theorem q412 : Jvm.Cond.code ({ cls := "PoliteGatherer", name := "corpusAt", desc := "(I)I" } : Jvm.MethodName) prog_1_method_18_code (2 : Nat) (Option.some Jvm.ClassFile.FieldType.int) ∈ tables_1 := qr2 (List.mem_of_getElem? (i := 172) rfl)
theorem q413 : Jvm.Cond.methodLink "PoliteGatherer" (137 : Nat) ({ cls := "PoliteGatherer$Row", name := "at", desc := "(I)I" } : Jvm.MethodName) ∈ tables_1 := qr2 (List.mem_of_getElem? (i := 173) rfl)
theorem q414 : Jvm.Cond.methodLink "PoliteGathererLaw" (89 : Nat) ({ cls := "PoliteGatherer", name := "document", desc := "(I)I" } : Jvm.MethodName) ∈ tables_1 := qr2 (List.mem_of_getElem? (i := 174) rfl)
theorem q415 : Jvm.Cond.instanceMethod ({ cls := "PoliteGatherer", name := "document", desc := "(I)I" } : Jvm.MethodName) ∈ tables_1 := qr2 (List.mem_of_getElem? (i := 175) rfl)
theorem q416 : Jvm.Cond.selects "PoliteGatherer" ({ cls := "PoliteGatherer", name := "document", desc := "(I)I" } : Jvm.MethodName) ({ cls := "PoliteGatherer", name := "document", desc := "(I)I" } : Jvm.MethodName) ∈ tables_1 := qr2 (List.mem_of_getElem? (i := 176) rfl)
theorem q417 : Jvm.Cond.code ({ cls := "PoliteGatherer", name := "document", desc := "(I)I" } : Jvm.MethodName) prog_1_method_19_code (2 : Nat) (Option.some Jvm.ClassFile.FieldType.int) ∈ tables_1 := qr2 (List.mem_of_getElem? (i := 177) rfl)
theorem q418 : Jvm.Cond.methodLink "PoliteGatherer" (141 : Nat) ({ cls := "PoliteGatherer$Ranking", name := "documentOf", desc := "(I)I" } : Jvm.MethodName) ∈ tables_1 := qr2 (List.mem_of_getElem? (i := 178) rfl)
theorem q419 : Jvm.Cond.instanceMethod ({ cls := "PoliteGatherer$Ranking", name := "documentOf", desc := "(I)I" } : Jvm.MethodName) ∈ tables_1 := qr2 (List.mem_of_getElem? (i := 179) rfl)
theorem q420 : Jvm.Cond.selects "PoliteGatherer$Ranking" ({ cls := "PoliteGatherer$Ranking", name := "documentOf", desc := "(I)I" } : Jvm.MethodName) ({ cls := "PoliteGatherer$Ranking", name := "documentOf", desc := "(I)I" } : Jvm.MethodName) ∈ tables_1 := qr2 (List.mem_of_getElem? (i := 180) rfl)
theorem q421 : Jvm.Cond.code ({ cls := "PoliteGatherer$Ranking", name := "documentOf", desc := "(I)I" } : Jvm.MethodName) prog_5_method_2_code (5 : Nat) (Option.some Jvm.ClassFile.FieldType.int) ∈ tables_1 := qr2 (List.mem_of_getElem? (i := 181) rfl)
theorem q422 : Jvm.Cond.methodLink "PoliteGatherer$Ranking" (52 : Nat) ({ cls := "PoliteGatherer$Row", name := "holds", desc := "(I)Z" } : Jvm.MethodName) ∈ tables_1 := qr2 (List.mem_of_getElem? (i := 182) rfl)
theorem q423 : Jvm.Cond.methodLink "PoliteGatherer$Ranking" (71 : Nat) ({ cls := "PoliteGatherer$Row", name := "at", desc := "(I)I" } : Jvm.MethodName) ∈ tables_1 := qr2 (List.mem_of_getElem? (i := 183) rfl)
theorem q424 : Jvm.Cond.methodLink "PoliteGatherer$Ranking" (75 : Nat) ({ cls := "PoliteGatherer$Row", name := "sameAs", desc := "(LPoliteGatherer$Row;)Z" } : Jvm.MethodName) ∈ tables_1 := qr2 (List.mem_of_getElem? (i := 184) rfl)
theorem q425 : Jvm.Cond.instanceMethod ({ cls := "PoliteGatherer$Row", name := "sameAs", desc := "(LPoliteGatherer$Row;)Z" } : Jvm.MethodName) ∈ tables_1 := qr2 (List.mem_of_getElem? (i := 185) rfl)
theorem q426 : Jvm.Cond.selects "PoliteGatherer$Row" ({ cls := "PoliteGatherer$Row", name := "sameAs", desc := "(LPoliteGatherer$Row;)Z" } : Jvm.MethodName) ({ cls := "PoliteGatherer$Row", name := "sameAs", desc := "(LPoliteGatherer$Row;)Z" } : Jvm.MethodName) ∈ tables_1 := qr2 (List.mem_of_getElem? (i := 186) rfl)
theorem q427 : Jvm.Cond.code ({ cls := "PoliteGatherer$Row", name := "sameAs", desc := "(LPoliteGatherer$Row;)Z" } : Jvm.MethodName) prog_7_method_5_code (3 : Nat) (Option.some Jvm.ClassFile.FieldType.boolean) ∈ tables_1 := qr2 (List.mem_of_getElem? (i := 187) rfl)
theorem q428 : Jvm.Cond.methodLink "PoliteGathererLaw" (93 : Nat) ({ cls := "PoliteGatherer", name := "rank", desc := "(II)J" } : Jvm.MethodName) ∈ tables_1 := qr2 (List.mem_of_getElem? (i := 188) rfl)
theorem q429 : Jvm.Cond.instanceMethod ({ cls := "PoliteGatherer", name := "rank", desc := "(II)J" } : Jvm.MethodName) ∈ tables_1 := qr2 (List.mem_of_getElem? (i := 189) rfl)
theorem q430 : Jvm.Cond.selects "PoliteGatherer" ({ cls := "PoliteGatherer", name := "rank", desc := "(II)J" } : Jvm.MethodName) ({ cls := "PoliteGatherer", name := "rank", desc := "(II)J" } : Jvm.MethodName) ∈ tables_1 := qr2 (List.mem_of_getElem? (i := 190) rfl)
theorem q431 : Jvm.Cond.code ({ cls := "PoliteGatherer", name := "rank", desc := "(II)J" } : Jvm.MethodName) prog_1_method_20_code (3 : Nat) (Option.some Jvm.ClassFile.FieldType.long) ∈ tables_1 := qr2 (List.mem_of_getElem? (i := 191) rfl)
theorem q432 : Jvm.Cond.methodLink "PoliteGatherer" (144 : Nat) ({ cls := "PoliteGatherer$Ranking", name := "isDocument", desc := "(I)Z" } : Jvm.MethodName) ∈ tables_1 := qr2 (List.mem_of_getElem? (i := 192) rfl)
theorem q433 : Jvm.Cond.instanceMethod ({ cls := "PoliteGatherer$Ranking", name := "isDocument", desc := "(I)Z" } : Jvm.MethodName) ∈ tables_1 := qr2 (List.mem_of_getElem? (i := 193) rfl)
theorem q434 : Jvm.Cond.selects "PoliteGatherer$Ranking" ({ cls := "PoliteGatherer$Ranking", name := "isDocument", desc := "(I)Z" } : Jvm.MethodName) ({ cls := "PoliteGatherer$Ranking", name := "isDocument", desc := "(I)Z" } : Jvm.MethodName) ∈ tables_1 := qr2 (List.mem_of_getElem? (i := 194) rfl)
theorem q435 : Jvm.Cond.code ({ cls := "PoliteGatherer$Ranking", name := "isDocument", desc := "(I)Z" } : Jvm.MethodName) prog_5_method_3_code (2 : Nat) (Option.some Jvm.ClassFile.FieldType.boolean) ∈ tables_1 := qr2 (List.mem_of_getElem? (i := 195) rfl)
theorem q436 : Jvm.Cond.methodLink "PoliteGatherer$Ranking" (79 : Nat) ({ cls := "PoliteGatherer$Ranking", name := "documentOf", desc := "(I)I" } : Jvm.MethodName) ∈ tables_1 := qr2 (List.mem_of_getElem? (i := 196) rfl)
theorem q437 : Jvm.Cond.methodLink "PoliteGatherer" (147 : Nat) ({ cls := "PoliteGatherer$Ranking", name := "computeRanks", desc := "(I)V" } : Jvm.MethodName) ∈ tables_1 := qr2 (List.mem_of_getElem? (i := 197) rfl)
theorem q438 : Jvm.Cond.instanceMethod ({ cls := "PoliteGatherer$Ranking", name := "computeRanks", desc := "(I)V" } : Jvm.MethodName) ∈ tables_1 := qr2 (List.mem_of_getElem? (i := 198) rfl)
theorem q439 : Jvm.Cond.selects "PoliteGatherer$Ranking" ({ cls := "PoliteGatherer$Ranking", name := "computeRanks", desc := "(I)V" } : Jvm.MethodName) ({ cls := "PoliteGatherer$Ranking", name := "computeRanks", desc := "(I)V" } : Jvm.MethodName) ∈ tables_1 := qr2 (List.mem_of_getElem? (i := 199) rfl)
theorem q440 : Jvm.Cond.code ({ cls := "PoliteGatherer$Ranking", name := "computeRanks", desc := "(I)V" } : Jvm.MethodName) prog_5_method_4_code (4 : Nat) (Option.none : Option Jvm.ClassFile.FieldType) ∈ tables_1 := qr2 (List.mem_of_getElem? (i := 200) rfl)
theorem q441 : Jvm.Cond.methodLink "PoliteGatherer$Ranking" (82 : Nat) ({ cls := "PoliteGatherer$Ranking", name := "listDocuments", desc := "()V" } : Jvm.MethodName) ∈ tables_1 := qr2 (List.mem_of_getElem? (i := 201) rfl)
theorem q443 : Jvm.Cond.instanceMethod ({ cls := "PoliteGatherer$Ranking", name := "listDocuments", desc := "()V" } : Jvm.MethodName) ∈ tables_1 := qr2 (List.mem_of_getElem? (i := 203) rfl)
theorem q444 : Jvm.Cond.code ({ cls := "PoliteGatherer$Ranking", name := "listDocuments", desc := "()V" } : Jvm.MethodName) prog_5_method_7_code (3 : Nat) (Option.none : Option Jvm.ClassFile.FieldType) ∈ tables_1 := qr2 (List.mem_of_getElem? (i := 204) rfl)
theorem q445 : Jvm.Cond.methodLink "PoliteGatherer$Ranking" (100 : Nat) ({ cls := "PoliteGatherer$Row", name := "cutTo", desc := "(I)V" } : Jvm.MethodName) ∈ tables_1 := qr2 (List.mem_of_getElem? (i := 205) rfl)
theorem q446 : Jvm.Cond.methodLink "PoliteGatherer$Ranking" (103 : Nat) ({ cls := "PoliteGatherer$Ranking", name := "isDocument", desc := "(I)Z" } : Jvm.MethodName) ∈ tables_1 := qr2 (List.mem_of_getElem? (i := 206) rfl)
theorem q447 : Jvm.Cond.methodLink "PoliteGatherer$Ranking" (106 : Nat) ({ cls := "PoliteGatherer$Row", name := "add", desc := "(I)Z" } : Jvm.MethodName) ∈ tables_1 := qr2 (List.mem_of_getElem? (i := 207) rfl)
theorem q448 : Jvm.Cond.constantLong "PoliteGatherer$Ranking" (85 : Nat) (1000000 : Int64) ∈ tables_1 := qr2 (List.mem_of_getElem? (i := 208) rfl)
theorem q449 : Jvm.Cond.methodLink "PoliteGatherer$Ranking" (87 : Nat) ({ cls := "PoliteGatherer$Ranking", name := "followLinks", desc := "(I)V" } : Jvm.MethodName) ∈ tables_1 := qr2 (List.mem_of_getElem? (i := 209) rfl)
theorem q451 : Jvm.Cond.instanceMethod ({ cls := "PoliteGatherer$Ranking", name := "followLinks", desc := "(I)V" } : Jvm.MethodName) ∈ tables_1 := qr2 (List.mem_of_getElem? (i := 211) rfl)
theorem q452 : Jvm.Cond.code ({ cls := "PoliteGatherer$Ranking", name := "followLinks", desc := "(I)V" } : Jvm.MethodName) prog_5_method_8_code (5 : Nat) (Option.none : Option Jvm.ClassFile.FieldType) ∈ tables_1 := qr2 (List.mem_of_getElem? (i := 212) rfl)
theorem q453 : Jvm.Cond.methodLink "PoliteGatherer$Ranking" (112 : Nat) ({ cls := "PoliteGatherer$Gathering", name := "chase", desc := "(IZ)I" } : Jvm.MethodName) ∈ tables_1 := qr2 (List.mem_of_getElem? (i := 213) rfl)
theorem q454 : Jvm.Cond.methodLink "PoliteGatherer$Ranking" (90 : Nat) ({ cls := "PoliteGatherer$Ranking", name := "playRound", desc := "()V" } : Jvm.MethodName) ∈ tables_1 := qr2 (List.mem_of_getElem? (i := 214) rfl)
theorem q456 : Jvm.Cond.instanceMethod ({ cls := "PoliteGatherer$Ranking", name := "playRound", desc := "()V" } : Jvm.MethodName) ∈ tables_1 := qr2 (List.mem_of_getElem? (i := 216) rfl)
theorem q457 : Jvm.Cond.code ({ cls := "PoliteGatherer$Ranking", name := "playRound", desc := "()V" } : Jvm.MethodName) prog_5_method_9_code (3 : Nat) (Option.none : Option Jvm.ClassFile.FieldType) ∈ tables_1 := qr2 (List.mem_of_getElem? (i := 217) rfl)
theorem q458 : Jvm.Cond.methodLink "PoliteGatherer$Ranking" (116 : Nat) ({ cls := "PoliteGatherer$Ranking", name := "passOn", desc := "(I)V" } : Jvm.MethodName) ∈ tables_1 := qr2 (List.mem_of_getElem? (i := 218) rfl)
theorem q460 : Jvm.Cond.instanceMethod ({ cls := "PoliteGatherer$Ranking", name := "passOn", desc := "(I)V" } : Jvm.MethodName) ∈ tables_1 := qr2 (List.mem_of_getElem? (i := 220) rfl)
theorem q461 : Jvm.Cond.code ({ cls := "PoliteGatherer$Ranking", name := "passOn", desc := "(I)V" } : Jvm.MethodName) prog_5_method_10_code (6 : Nat) (Option.none : Option Jvm.ClassFile.FieldType) ∈ tables_1 := qr2 (List.mem_of_getElem? (i := 221) rfl)
theorem q462 : Jvm.Cond.constantLong "PoliteGatherer$Ranking" (119 : Nat) (150000 : Int64) ∈ tables_1 := qr2 (List.mem_of_getElem? (i := 222) rfl)
theorem q463 : Jvm.Cond.constantLong "PoliteGatherer$Ranking" (121 : Nat) (85 : Int64) ∈ tables_1 := qr2 (List.mem_of_getElem? (i := 223) rfl)
theorem q464 : Jvm.Cond.constantLong "PoliteGatherer$Ranking" (123 : Nat) (100 : Int64) ∈ tables_1 := qr2 (List.mem_of_getElem? (i := 224) rfl)
theorem q465 : Jvm.Cond.methodLink "PoliteGathererLaw" (98 : Nat) ({ cls := "PoliteGatherer", name := "best", desc := "(III)I" } : Jvm.MethodName) ∈ tables_1 := qr2 (List.mem_of_getElem? (i := 225) rfl)
theorem q466 : Jvm.Cond.instanceMethod ({ cls := "PoliteGatherer", name := "best", desc := "(III)I" } : Jvm.MethodName) ∈ tables_1 := qr2 (List.mem_of_getElem? (i := 226) rfl)
theorem q467 : Jvm.Cond.selects "PoliteGatherer" ({ cls := "PoliteGatherer", name := "best", desc := "(III)I" } : Jvm.MethodName) ({ cls := "PoliteGatherer", name := "best", desc := "(III)I" } : Jvm.MethodName) ∈ tables_1 := qr2 (List.mem_of_getElem? (i := 227) rfl)
theorem q468 : Jvm.Cond.code ({ cls := "PoliteGatherer", name := "best", desc := "(III)I" } : Jvm.MethodName) prog_1_method_21_code (4 : Nat) (Option.some Jvm.ClassFile.FieldType.int) ∈ tables_1 := qr2 (List.mem_of_getElem? (i := 228) rfl)
theorem q469 : Jvm.Cond.methodLink "PoliteGatherer" (155 : Nat) ({ cls := "PoliteGatherer$Ranking", name := "computeScores", desc := "(II)V" } : Jvm.MethodName) ∈ tables_1 := qr2 (List.mem_of_getElem? (i := 229) rfl)
theorem q470 : Jvm.Cond.instanceMethod ({ cls := "PoliteGatherer$Ranking", name := "computeScores", desc := "(II)V" } : Jvm.MethodName) ∈ tables_1 := qr2 (List.mem_of_getElem? (i := 230) rfl)
theorem q471 : Jvm.Cond.selects "PoliteGatherer$Ranking" ({ cls := "PoliteGatherer$Ranking", name := "computeScores", desc := "(II)V" } : Jvm.MethodName) ({ cls := "PoliteGatherer$Ranking", name := "computeScores", desc := "(II)V" } : Jvm.MethodName) ∈ tables_1 := qr2 (List.mem_of_getElem? (i := 231) rfl)
theorem q472 : Jvm.Cond.code ({ cls := "PoliteGatherer$Ranking", name := "computeScores", desc := "(II)V" } : Jvm.MethodName) prog_5_method_5_code (5 : Nat) (Option.none : Option Jvm.ClassFile.FieldType) ∈ tables_1 := qr2 (List.mem_of_getElem? (i := 232) rfl)
theorem q473 : Jvm.Cond.methodLink "PoliteGatherer$Ranking" (93 : Nat) ({ cls := "PoliteGatherer$Page", name := "placesOf", desc := "(II)I" } : Jvm.MethodName) ∈ tables_1 := qr2 (List.mem_of_getElem? (i := 233) rfl)
theorem q474 : Jvm.Cond.instanceMethod ({ cls := "PoliteGatherer$Page", name := "placesOf", desc := "(II)I" } : Jvm.MethodName) ∈ tables_1 := qr2 (List.mem_of_getElem? (i := 234) rfl)
theorem q475 : Jvm.Cond.selects "PoliteGatherer$Page" ({ cls := "PoliteGatherer$Page", name := "placesOf", desc := "(II)I" } : Jvm.MethodName) ({ cls := "PoliteGatherer$Page", name := "placesOf", desc := "(II)I" } : Jvm.MethodName) ∈ tables_1 := qr2 (List.mem_of_getElem? (i := 235) rfl)
theorem q476 : Jvm.Cond.code ({ cls := "PoliteGatherer$Page", name := "placesOf", desc := "(II)I" } : Jvm.MethodName) prog_4_method_3_code (6 : Nat) (Option.some Jvm.ClassFile.FieldType.int) ∈ tables_1 := qr2 (List.mem_of_getElem? (i := 236) rfl)
theorem q477 : Jvm.Cond.methodLink "PoliteGatherer$Page" (45 : Nat) ({ cls := "PoliteGatherer$Row", name := "at", desc := "(I)I" } : Jvm.MethodName) ∈ tables_1 := qr2 (List.mem_of_getElem? (i := 237) rfl)
theorem q478 : Jvm.Cond.methodLink "PoliteGatherer" (159 : Nat) ({ cls := "PoliteGatherer$Ranking", name := "documentAtPlace", desc := "(I)I" } : Jvm.MethodName) ∈ tables_1 := qr2 (List.mem_of_getElem? (i := 238) rfl)
theorem q479 : Jvm.Cond.instanceMethod ({ cls := "PoliteGatherer$Ranking", name := "documentAtPlace", desc := "(I)I" } : Jvm.MethodName) ∈ tables_1 := qr2 (List.mem_of_getElem? (i := 239) rfl)
theorem q480 : Jvm.Cond.selects "PoliteGatherer$Ranking" ({ cls := "PoliteGatherer$Ranking", name := "documentAtPlace", desc := "(I)I" } : Jvm.MethodName) ({ cls := "PoliteGatherer$Ranking", name := "documentAtPlace", desc := "(I)I" } : Jvm.MethodName) ∈ tables_1 := qr3 (List.mem_of_getElem? (i := 0) rfl)
theorem q481 : Jvm.Cond.code ({ cls := "PoliteGatherer$Ranking", name := "documentAtPlace", desc := "(I)I" } : Jvm.MethodName) prog_5_method_6_code (4 : Nat) (Option.some Jvm.ClassFile.FieldType.int) ∈ tables_1 := qr3 (List.mem_of_getElem? (i := 1) rfl)
theorem q482 : Jvm.Cond.methodLink "PoliteGatherer$Ranking" (97 : Nat) ({ cls := "PoliteGatherer$Ranking", name := "placeOf", desc := "(I)I" } : Jvm.MethodName) ∈ tables_1 := qr3 (List.mem_of_getElem? (i := 2) rfl)
theorem q484 : Jvm.Cond.instanceMethod ({ cls := "PoliteGatherer$Ranking", name := "placeOf", desc := "(I)I" } : Jvm.MethodName) ∈ tables_1 := qr3 (List.mem_of_getElem? (i := 4) rfl)
theorem q485 : Jvm.Cond.code ({ cls := "PoliteGatherer$Ranking", name := "placeOf", desc := "(I)I" } : Jvm.MethodName) prog_5_method_11_code (4 : Nat) (Option.some Jvm.ClassFile.FieldType.int) ∈ tables_1 := qr3 (List.mem_of_getElem? (i := 5) rfl)
theorem q486 : Jvm.Cond.methodLink "PoliteGatherer$Ranking" (125 : Nat) ({ cls := "PoliteGatherer$Ranking", name := "standsBefore", desc := "(II)Z" } : Jvm.MethodName) ∈ tables_1 := qr3 (List.mem_of_getElem? (i := 6) rfl)
theorem q488 : Jvm.Cond.instanceMethod ({ cls := "PoliteGatherer$Ranking", name := "standsBefore", desc := "(II)Z" } : Jvm.MethodName) ∈ tables_1 := qr3 (List.mem_of_getElem? (i := 8) rfl)
theorem q489 : Jvm.Cond.code ({ cls := "PoliteGatherer$Ranking", name := "standsBefore", desc := "(II)Z" } : Jvm.MethodName) prog_5_method_12_code (3 : Nat) (Option.some Jvm.ClassFile.FieldType.boolean) ∈ tables_1 := qr3 (List.mem_of_getElem? (i := 9) rfl)
theorem q490 : Jvm.Cond.methodLink "PoliteGatherer$Ranking" (129 : Nat) ({ cls := "PoliteGatherer$Page", name := "comesBefore", desc := "(LPoliteGatherer$Page;)Z" } : Jvm.MethodName) ∈ tables_1 := qr3 (List.mem_of_getElem? (i := 10) rfl)
theorem q491 : Jvm.Cond.instanceMethod ({ cls := "PoliteGatherer$Page", name := "comesBefore", desc := "(LPoliteGatherer$Page;)Z" } : Jvm.MethodName) ∈ tables_1 := qr3 (List.mem_of_getElem? (i := 11) rfl)
theorem q492 : Jvm.Cond.selects "PoliteGatherer$Page" ({ cls := "PoliteGatherer$Page", name := "comesBefore", desc := "(LPoliteGatherer$Page;)Z" } : Jvm.MethodName) ({ cls := "PoliteGatherer$Page", name := "comesBefore", desc := "(LPoliteGatherer$Page;)Z" } : Jvm.MethodName) ∈ tables_1 := qr3 (List.mem_of_getElem? (i := 12) rfl)
theorem q493 : Jvm.Cond.code ({ cls := "PoliteGatherer$Page", name := "comesBefore", desc := "(LPoliteGatherer$Page;)Z" } : Jvm.MethodName) prog_4_method_2_code (2 : Nat) (Option.some Jvm.ClassFile.FieldType.boolean) ∈ tables_1 := qr3 (List.mem_of_getElem? (i := 13) rfl)
theorem q494 : Jvm.Cond.classLink "PoliteGathererLaw" (10 : Nat) "PoliteGathererModel" ∈ tables_1 := qr3 (List.mem_of_getElem? (i := 14) rfl)
theorem q495 : Jvm.Cond.instantiable "PoliteGathererModel" (37 : Nat) ∈ tables_1 := qr3 (List.mem_of_getElem? (i := 15) rfl)
theorem q496 : Jvm.Cond.methodLink "PoliteGathererLaw" (12 : Nat) ({ cls := "PoliteGathererModel", name := "<init>", desc := "()V" } : Jvm.MethodName) ∈ tables_1 := qr3 (List.mem_of_getElem? (i := 16) rfl)
theorem q497 : Jvm.Cond.instanceMethod ({ cls := "PoliteGathererModel", name := "<init>", desc := "()V" } : Jvm.MethodName) ∈ tables_1 := qr3 (List.mem_of_getElem? (i := 17) rfl)
theorem q498 : Jvm.Cond.code ({ cls := "PoliteGathererModel", name := "<init>", desc := "()V" } : Jvm.MethodName) prog_10_method_1_code (1 : Nat) (Option.none : Option Jvm.ClassFile.FieldType) ∈ tables_1 := qr3 (List.mem_of_getElem? (i := 18) rfl)
theorem q499 : Jvm.Cond.methodLink "PoliteGathererModel" (1 : Nat) ({ cls := "java/lang/Object", name := "<init>", desc := "()V" } : Jvm.MethodName) ∈ tables_1 := qr3 (List.mem_of_getElem? (i := 19) rfl)
theorem q500 : Jvm.Cond.fieldLink "PoliteGathererModel" (69 : Nat) "PoliteGathererModel" "pages" "I" ∈ tables_1 := qr3 (List.mem_of_getElem? (i := 20) rfl)
theorem q501 : Jvm.Cond.fieldLink "PoliteGathererModel" (7 : Nat) "PoliteGathererModel" "host" "[I" ∈ tables_1 := qr3 (List.mem_of_getElem? (i := 21) rfl)
theorem q502 : Jvm.Cond.fieldLink "PoliteGathererModel" (13 : Nat) "PoliteGathererModel" "path" "[I" ∈ tables_1 := qr3 (List.mem_of_getElem? (i := 22) rfl)
theorem q503 : Jvm.Cond.fieldLink "PoliteGathererModel" (16 : Nat) "PoliteGathererModel" "reply" "[I" ∈ tables_1 := qr3 (List.mem_of_getElem? (i := 23) rfl)
theorem q504 : Jvm.Cond.fieldLink "PoliteGathererModel" (19 : Nat) "PoliteGathererModel" "words" "[I" ∈ tables_1 := qr3 (List.mem_of_getElem? (i := 24) rfl)
theorem q505 : Jvm.Cond.fieldLink "PoliteGathererModel" (22 : Nat) "PoliteGathererModel" "wordCount" "[I" ∈ tables_1 := qr3 (List.mem_of_getElem? (i := 25) rfl)
theorem q506 : Jvm.Cond.fieldLink "PoliteGathererModel" (25 : Nat) "PoliteGathererModel" "goes" "[I" ∈ tables_1 := qr3 (List.mem_of_getElem? (i := 26) rfl)
theorem q507 : Jvm.Cond.fieldLink "PoliteGathererModel" (28 : Nat) "PoliteGathererModel" "linkCount" "[I" ∈ tables_1 := qr3 (List.mem_of_getElem? (i := 27) rfl)
theorem q508 : Jvm.Cond.fieldLink "PoliteGathererModel" (31 : Nat) "PoliteGathererModel" "prefixes" "[I" ∈ tables_1 := qr3 (List.mem_of_getElem? (i := 28) rfl)
theorem q509 : Jvm.Cond.fieldLink "PoliteGathererModel" (34 : Nat) "PoliteGathererModel" "allowing" "[Z" ∈ tables_1 := qr3 (List.mem_of_getElem? (i := 29) rfl)
theorem q510 : Jvm.Cond.fieldLink "PoliteGathererModel" (38 : Nat) "PoliteGathererModel" "ruleCount" "[I" ∈ tables_1 := qr3 (List.mem_of_getElem? (i := 30) rfl)
theorem q511 : Jvm.Cond.fieldLink "PoliteGathererModel" (41 : Nat) "PoliteGathererModel" "starts" "[I" ∈ tables_1 := qr3 (List.mem_of_getElem? (i := 31) rfl)
theorem q512 : Jvm.Cond.fieldLink "PoliteGathererModel" (82 : Nat) "PoliteGathererModel" "startCount" "I" ∈ tables_1 := qr3 (List.mem_of_getElem? (i := 32) rfl)
theorem q513 : Jvm.Cond.fieldLink "PoliteGathererModel" (73 : Nat) "PoliteGathererModel" "on" "Z" ∈ tables_1 := qr3 (List.mem_of_getElem? (i := 33) rfl)
theorem q514 : Jvm.Cond.fieldLink "PoliteGathererModel" (131 : Nat) "PoliteGathererModel" "limit" "I" ∈ tables_1 := qr3 (List.mem_of_getElem? (i := 34) rfl)
theorem q515 : Jvm.Cond.fieldLink "PoliteGathererModel" (111 : Nat) "PoliteGathererModel" "hops" "I" ∈ tables_1 := qr3 (List.mem_of_getElem? (i := 35) rfl)
theorem q516 : Jvm.Cond.fieldLink "PoliteGathererModel" (98 : Nat) "PoliteGathererModel" "delay" "I" ∈ tables_1 := qr3 (List.mem_of_getElem? (i := 36) rfl)
theorem q517 : Jvm.Cond.fieldLink "PoliteGathererModel" (141 : Nat) "PoliteGathererModel" "every" "I" ∈ tables_1 := qr3 (List.mem_of_getElem? (i := 37) rfl)
theorem q518 : Jvm.Cond.fieldLink "PoliteGathererModel" (44 : Nat) "PoliteGathererModel" "entryPage" "[I" ∈ tables_1 := qr3 (List.mem_of_getElem? (i := 38) rfl)
theorem q519 : Jvm.Cond.fieldLink "PoliteGathererModel" (47 : Nat) "PoliteGathererModel" "entryDepth" "[I" ∈ tables_1 := qr3 (List.mem_of_getElem? (i := 39) rfl)
theorem q520 : Jvm.Cond.fieldLink "PoliteGathererModel" (120 : Nat) "PoliteGathererModel" "head" "I" ∈ tables_1 := qr3 (List.mem_of_getElem? (i := 40) rfl)
theorem q521 : Jvm.Cond.fieldLink "PoliteGathererModel" (117 : Nat) "PoliteGathererModel" "queued" "I" ∈ tables_1 := qr3 (List.mem_of_getElem? (i := 41) rfl)
theorem q522 : Jvm.Cond.fieldLink "PoliteGathererModel" (50 : Nat) "PoliteGathererModel" "fetchedPages" "[I" ∈ tables_1 := qr3 (List.mem_of_getElem? (i := 42) rfl)
theorem q523 : Jvm.Cond.fieldLink "PoliteGathererModel" (89 : Nat) "PoliteGathererModel" "fetched" "I" ∈ tables_1 := qr3 (List.mem_of_getElem? (i := 43) rfl)
theorem q524 : Jvm.Cond.fieldLink "PoliteGathererModel" (53 : Nat) "PoliteGathererModel" "corpus" "[I" ∈ tables_1 := qr3 (List.mem_of_getElem? (i := 44) rfl)
theorem q525 : Jvm.Cond.fieldLink "PoliteGathererModel" (114 : Nat) "PoliteGathererModel" "gathered" "I" ∈ tables_1 := qr3 (List.mem_of_getElem? (i := 45) rfl)
theorem q526 : Jvm.Cond.fieldLink "PoliteGathererModel" (95 : Nat) "PoliteGathererModel" "now" "I" ∈ tables_1 := qr3 (List.mem_of_getElem? (i := 46) rfl)
theorem q527 : Jvm.Cond.fieldLink "PoliteGathererModel" (56 : Nat) "PoliteGathererModel" "from" "[I" ∈ tables_1 := qr3 (List.mem_of_getElem? (i := 47) rfl)
theorem q528 : Jvm.Cond.fieldLink "PoliteGathererModel" (101 : Nat) "PoliteGathererModel" "total" "I" ∈ tables_1 := qr3 (List.mem_of_getElem? (i := 48) rfl)
theorem q529 : Jvm.Cond.fieldLink "PoliteGathererModel" (147 : Nat) "PoliteGathererModel" "markHead" "I" ∈ tables_1 := qr3 (List.mem_of_getElem? (i := 49) rfl)
theorem q530 : Jvm.Cond.fieldLink "PoliteGathererModel" (150 : Nat) "PoliteGathererModel" "markQueued" "I" ∈ tables_1 := qr3 (List.mem_of_getElem? (i := 50) rfl)
theorem q531 : Jvm.Cond.fieldLink "PoliteGathererModel" (153 : Nat) "PoliteGathererModel" "markFetched" "I" ∈ tables_1 := qr3 (List.mem_of_getElem? (i := 51) rfl)
theorem q532 : Jvm.Cond.fieldLink "PoliteGathererModel" (156 : Nat) "PoliteGathererModel" "markGathered" "I" ∈ tables_1 := qr3 (List.mem_of_getElem? (i := 52) rfl)
theorem q533 : Jvm.Cond.fieldLink "PoliteGathererModel" (138 : Nat) "PoliteGathererModel" "since" "I" ∈ tables_1 := qr3 (List.mem_of_getElem? (i := 53) rfl)
theorem q534 : Jvm.Cond.fieldLink "PoliteGathererModel" (59 : Nat) "PoliteGathererModel" "leads" "[I" ∈ tables_1 := qr3 (List.mem_of_getElem? (i := 54) rfl)
theorem q535 : Jvm.Cond.fieldLink "PoliteGathererModel" (62 : Nat) "PoliteGathererModel" "ranks" "[J" ∈ tables_1 := qr3 (List.mem_of_getElem? (i := 55) rfl)
theorem q536 : Jvm.Cond.fieldLink "PoliteGathererModel" (66 : Nat) "PoliteGathererModel" "before" "[J" ∈ tables_1 := qr3 (List.mem_of_getElem? (i := 56) rfl)
theorem q537 : Jvm.Cond.lays "PoliteGathererModel" "PoliteGathererModel" "pages" "I" ∈ tables_1 := qr3 (List.mem_of_getElem? (i := 57) rfl)
theorem q539 : Jvm.Cond.laysFinal "PoliteGathererModel" "PoliteGathererModel" "host" "[I" ∈ tables_1 := qr3 (List.mem_of_getElem? (i := 59) rfl)
theorem q541 : Jvm.Cond.laysFinal "PoliteGathererModel" "PoliteGathererModel" "path" "[I" ∈ tables_1 := qr3 (List.mem_of_getElem? (i := 61) rfl)
theorem q543 : Jvm.Cond.laysFinal "PoliteGathererModel" "PoliteGathererModel" "reply" "[I" ∈ tables_1 := qr3 (List.mem_of_getElem? (i := 63) rfl)
theorem q545 : Jvm.Cond.laysFinal "PoliteGathererModel" "PoliteGathererModel" "words" "[I" ∈ tables_1 := qr3 (List.mem_of_getElem? (i := 65) rfl)
theorem q547 : Jvm.Cond.laysFinal "PoliteGathererModel" "PoliteGathererModel" "wordCount" "[I" ∈ tables_1 := qr3 (List.mem_of_getElem? (i := 67) rfl)
theorem q549 : Jvm.Cond.laysFinal "PoliteGathererModel" "PoliteGathererModel" "goes" "[I" ∈ tables_1 := qr3 (List.mem_of_getElem? (i := 69) rfl)
theorem q551 : Jvm.Cond.laysFinal "PoliteGathererModel" "PoliteGathererModel" "linkCount" "[I" ∈ tables_1 := qr3 (List.mem_of_getElem? (i := 71) rfl)
theorem q553 : Jvm.Cond.laysFinal "PoliteGathererModel" "PoliteGathererModel" "prefixes" "[I" ∈ tables_1 := qr3 (List.mem_of_getElem? (i := 73) rfl)
theorem q555 : Jvm.Cond.laysFinal "PoliteGathererModel" "PoliteGathererModel" "allowing" "[Z" ∈ tables_1 := qr3 (List.mem_of_getElem? (i := 75) rfl)
theorem q557 : Jvm.Cond.laysFinal "PoliteGathererModel" "PoliteGathererModel" "ruleCount" "[I" ∈ tables_1 := qr3 (List.mem_of_getElem? (i := 77) rfl)
theorem q559 : Jvm.Cond.laysFinal "PoliteGathererModel" "PoliteGathererModel" "starts" "[I" ∈ tables_1 := qr3 (List.mem_of_getElem? (i := 79) rfl)
theorem q561 : Jvm.Cond.lays "PoliteGathererModel" "PoliteGathererModel" "startCount" "I" ∈ tables_1 := qr3 (List.mem_of_getElem? (i := 81) rfl)
theorem q563 : Jvm.Cond.lays "PoliteGathererModel" "PoliteGathererModel" "on" "Z" ∈ tables_1 := qr3 (List.mem_of_getElem? (i := 83) rfl)
theorem q565 : Jvm.Cond.lays "PoliteGathererModel" "PoliteGathererModel" "limit" "I" ∈ tables_1 := qr3 (List.mem_of_getElem? (i := 85) rfl)
theorem q567 : Jvm.Cond.lays "PoliteGathererModel" "PoliteGathererModel" "hops" "I" ∈ tables_1 := qr3 (List.mem_of_getElem? (i := 87) rfl)
theorem q569 : Jvm.Cond.lays "PoliteGathererModel" "PoliteGathererModel" "delay" "I" ∈ tables_1 := qr3 (List.mem_of_getElem? (i := 89) rfl)
theorem q571 : Jvm.Cond.lays "PoliteGathererModel" "PoliteGathererModel" "every" "I" ∈ tables_1 := qr3 (List.mem_of_getElem? (i := 91) rfl)
theorem q573 : Jvm.Cond.laysFinal "PoliteGathererModel" "PoliteGathererModel" "entryPage" "[I" ∈ tables_1 := qr3 (List.mem_of_getElem? (i := 93) rfl)
theorem q575 : Jvm.Cond.laysFinal "PoliteGathererModel" "PoliteGathererModel" "entryDepth" "[I" ∈ tables_1 := qr3 (List.mem_of_getElem? (i := 95) rfl)
theorem q577 : Jvm.Cond.lays "PoliteGathererModel" "PoliteGathererModel" "head" "I" ∈ tables_1 := qr3 (List.mem_of_getElem? (i := 97) rfl)
theorem q579 : Jvm.Cond.lays "PoliteGathererModel" "PoliteGathererModel" "queued" "I" ∈ tables_1 := qr3 (List.mem_of_getElem? (i := 99) rfl)
theorem q581 : Jvm.Cond.laysFinal "PoliteGathererModel" "PoliteGathererModel" "fetchedPages" "[I" ∈ tables_1 := qr3 (List.mem_of_getElem? (i := 101) rfl)
theorem q583 : Jvm.Cond.lays "PoliteGathererModel" "PoliteGathererModel" "fetched" "I" ∈ tables_1 := qr3 (List.mem_of_getElem? (i := 103) rfl)
theorem q585 : Jvm.Cond.laysFinal "PoliteGathererModel" "PoliteGathererModel" "corpus" "[I" ∈ tables_1 := qr3 (List.mem_of_getElem? (i := 105) rfl)
theorem q587 : Jvm.Cond.lays "PoliteGathererModel" "PoliteGathererModel" "gathered" "I" ∈ tables_1 := qr3 (List.mem_of_getElem? (i := 107) rfl)
theorem q589 : Jvm.Cond.lays "PoliteGathererModel" "PoliteGathererModel" "now" "I" ∈ tables_1 := qr3 (List.mem_of_getElem? (i := 109) rfl)
theorem q591 : Jvm.Cond.laysFinal "PoliteGathererModel" "PoliteGathererModel" "from" "[I" ∈ tables_1 := qr3 (List.mem_of_getElem? (i := 111) rfl)
theorem q593 : Jvm.Cond.lays "PoliteGathererModel" "PoliteGathererModel" "total" "I" ∈ tables_1 := qr3 (List.mem_of_getElem? (i := 113) rfl)
theorem q595 : Jvm.Cond.lays "PoliteGathererModel" "PoliteGathererModel" "markHead" "I" ∈ tables_1 := qr3 (List.mem_of_getElem? (i := 115) rfl)
theorem q597 : Jvm.Cond.lays "PoliteGathererModel" "PoliteGathererModel" "markQueued" "I" ∈ tables_1 := qr3 (List.mem_of_getElem? (i := 117) rfl)
theorem q599 : Jvm.Cond.lays "PoliteGathererModel" "PoliteGathererModel" "markFetched" "I" ∈ tables_1 := qr3 (List.mem_of_getElem? (i := 119) rfl)
theorem q601 : Jvm.Cond.lays "PoliteGathererModel" "PoliteGathererModel" "markGathered" "I" ∈ tables_1 := qr3 (List.mem_of_getElem? (i := 121) rfl)
theorem q603 : Jvm.Cond.lays "PoliteGathererModel" "PoliteGathererModel" "since" "I" ∈ tables_1 := qr3 (List.mem_of_getElem? (i := 123) rfl)
theorem q605 : Jvm.Cond.laysFinal "PoliteGathererModel" "PoliteGathererModel" "leads" "[I" ∈ tables_1 := qr3 (List.mem_of_getElem? (i := 125) rfl)
theorem q607 : Jvm.Cond.laysFinal "PoliteGathererModel" "PoliteGathererModel" "ranks" "[J" ∈ tables_1 := qr3 (List.mem_of_getElem? (i := 127) rfl)
theorem q609 : Jvm.Cond.laysFinal "PoliteGathererModel" "PoliteGathererModel" "before" "[J" ∈ tables_1 := qr3 (List.mem_of_getElem? (i := 129) rfl)
theorem q612 : Jvm.Cond.methodLink "PoliteGathererLaw" (17 : Nat) ({ cls := "PoliteGathererModel", name := "page", desc := "(II)I" } : Jvm.MethodName) ∈ tables_1 := qr3 (List.mem_of_getElem? (i := 132) rfl)
theorem q613 : Jvm.Cond.instanceMethod ({ cls := "PoliteGathererModel", name := "page", desc := "(II)I" } : Jvm.MethodName) ∈ tables_1 := qr3 (List.mem_of_getElem? (i := 133) rfl)
theorem q614 : Jvm.Cond.selects "PoliteGathererModel" ({ cls := "PoliteGathererModel", name := "page", desc := "(II)I" } : Jvm.MethodName) ({ cls := "PoliteGathererModel", name := "page", desc := "(II)I" } : Jvm.MethodName) ∈ tables_1 := qr3 (List.mem_of_getElem? (i := 134) rfl)
theorem q615 : Jvm.Cond.code ({ cls := "PoliteGathererModel", name := "page", desc := "(II)I" } : Jvm.MethodName) prog_10_method_3_code (4 : Nat) (Option.some Jvm.ClassFile.FieldType.int) ∈ tables_1 := qr3 (List.mem_of_getElem? (i := 135) rfl)
theorem q616 : Jvm.Cond.constant "PoliteGathererModel" (77 : Nat) (999999 : Int32) ∈ tables_1 := qr3 (List.mem_of_getElem? (i := 136) rfl)
theorem q617 : Jvm.Cond.methodLink "PoliteGathererLaw" (22 : Nat) ({ cls := "PoliteGathererModel", name := "write", desc := "(II)Z" } : Jvm.MethodName) ∈ tables_1 := qr3 (List.mem_of_getElem? (i := 137) rfl)
theorem q618 : Jvm.Cond.instanceMethod ({ cls := "PoliteGathererModel", name := "write", desc := "(II)Z" } : Jvm.MethodName) ∈ tables_1 := qr3 (List.mem_of_getElem? (i := 138) rfl)
theorem q619 : Jvm.Cond.selects "PoliteGathererModel" ({ cls := "PoliteGathererModel", name := "write", desc := "(II)Z" } : Jvm.MethodName) ({ cls := "PoliteGathererModel", name := "write", desc := "(II)Z" } : Jvm.MethodName) ∈ tables_1 := qr3 (List.mem_of_getElem? (i := 139) rfl)
theorem q620 : Jvm.Cond.code ({ cls := "PoliteGathererModel", name := "write", desc := "(II)Z" } : Jvm.MethodName) prog_10_method_4_code (3 : Nat) (Option.some Jvm.ClassFile.FieldType.boolean) ∈ tables_1 := qr3 (List.mem_of_getElem? (i := 140) rfl)
theorem q621 : Jvm.Cond.methodLink "PoliteGathererModel" (78 : Nat) ({ cls := "PoliteGathererModel", name := "isPage", desc := "(I)Z" } : Jvm.MethodName) ∈ tables_1 := qr3 (List.mem_of_getElem? (i := 141) rfl)
theorem q623 : Jvm.Cond.instanceMethod ({ cls := "PoliteGathererModel", name := "isPage", desc := "(I)Z" } : Jvm.MethodName) ∈ tables_1 := qr3 (List.mem_of_getElem? (i := 143) rfl)
theorem q624 : Jvm.Cond.code ({ cls := "PoliteGathererModel", name := "isPage", desc := "(I)Z" } : Jvm.MethodName) prog_10_method_2_code (2 : Nat) (Option.some Jvm.ClassFile.FieldType.boolean) ∈ tables_1 := qr3 (List.mem_of_getElem? (i := 144) rfl)
theorem q625 : Jvm.Cond.methodLink "PoliteGathererLaw" (26 : Nat) ({ cls := "PoliteGathererModel", name := "link", desc := "(II)Z" } : Jvm.MethodName) ∈ tables_1 := qr3 (List.mem_of_getElem? (i := 145) rfl)
theorem q626 : Jvm.Cond.instanceMethod ({ cls := "PoliteGathererModel", name := "link", desc := "(II)Z" } : Jvm.MethodName) ∈ tables_1 := qr3 (List.mem_of_getElem? (i := 146) rfl)
theorem q627 : Jvm.Cond.selects "PoliteGathererModel" ({ cls := "PoliteGathererModel", name := "link", desc := "(II)Z" } : Jvm.MethodName) ({ cls := "PoliteGathererModel", name := "link", desc := "(II)Z" } : Jvm.MethodName) ∈ tables_1 := qr3 (List.mem_of_getElem? (i := 147) rfl)
theorem q628 : Jvm.Cond.code ({ cls := "PoliteGathererModel", name := "link", desc := "(II)Z" } : Jvm.MethodName) prog_10_method_5_code (3 : Nat) (Option.some Jvm.ClassFile.FieldType.boolean) ∈ tables_1 := qr3 (List.mem_of_getElem? (i := 148) rfl)
theorem q629 : Jvm.Cond.methodLink "PoliteGathererLaw" (30 : Nat) ({ cls := "PoliteGathererModel", name := "move", desc := "(II)Z" } : Jvm.MethodName) ∈ tables_1 := qr3 (List.mem_of_getElem? (i := 149) rfl)
theorem q630 : Jvm.Cond.instanceMethod ({ cls := "PoliteGathererModel", name := "move", desc := "(II)Z" } : Jvm.MethodName) ∈ tables_1 := qr3 (List.mem_of_getElem? (i := 150) rfl)
theorem q631 : Jvm.Cond.selects "PoliteGathererModel" ({ cls := "PoliteGathererModel", name := "move", desc := "(II)Z" } : Jvm.MethodName) ({ cls := "PoliteGathererModel", name := "move", desc := "(II)Z" } : Jvm.MethodName) ∈ tables_1 := qr3 (List.mem_of_getElem? (i := 151) rfl)
theorem q632 : Jvm.Cond.code ({ cls := "PoliteGathererModel", name := "move", desc := "(II)Z" } : Jvm.MethodName) prog_10_method_6_code (3 : Nat) (Option.some Jvm.ClassFile.FieldType.boolean) ∈ tables_1 := qr3 (List.mem_of_getElem? (i := 152) rfl)
theorem q633 : Jvm.Cond.methodLink "PoliteGathererLaw" (35 : Nat) ({ cls := "PoliteGathererModel", name := "drop", desc := "(I)Z" } : Jvm.MethodName) ∈ tables_1 := qr3 (List.mem_of_getElem? (i := 153) rfl)
theorem q634 : Jvm.Cond.instanceMethod ({ cls := "PoliteGathererModel", name := "drop", desc := "(I)Z" } : Jvm.MethodName) ∈ tables_1 := qr3 (List.mem_of_getElem? (i := 154) rfl)
theorem q635 : Jvm.Cond.selects "PoliteGathererModel" ({ cls := "PoliteGathererModel", name := "drop", desc := "(I)Z" } : Jvm.MethodName) ({ cls := "PoliteGathererModel", name := "drop", desc := "(I)Z" } : Jvm.MethodName) ∈ tables_1 := qr3 (List.mem_of_getElem? (i := 155) rfl)
theorem q636 : Jvm.Cond.code ({ cls := "PoliteGathererModel", name := "drop", desc := "(I)Z" } : Jvm.MethodName) prog_10_method_7_code (2 : Nat) (Option.some Jvm.ClassFile.FieldType.boolean) ∈ tables_1 := qr3 (List.mem_of_getElem? (i := 156) rfl)
theorem q637 : Jvm.Cond.methodLink "PoliteGathererLaw" (40 : Nat) ({ cls := "PoliteGathererModel", name := "rule", desc := "(IIZ)Z" } : Jvm.MethodName) ∈ tables_1 := qr3 (List.mem_of_getElem? (i := 157) rfl)
theorem q638 : Jvm.Cond.instanceMethod ({ cls := "PoliteGathererModel", name := "rule", desc := "(IIZ)Z" } : Jvm.MethodName) ∈ tables_1 := qr3 (List.mem_of_getElem? (i := 158) rfl)
theorem q639 : Jvm.Cond.selects "PoliteGathererModel" ({ cls := "PoliteGathererModel", name := "rule", desc := "(IIZ)Z" } : Jvm.MethodName) ({ cls := "PoliteGathererModel", name := "rule", desc := "(IIZ)Z" } : Jvm.MethodName) ∈ tables_1 := qr3 (List.mem_of_getElem? (i := 159) rfl)
theorem q640 : Jvm.Cond.code ({ cls := "PoliteGathererModel", name := "rule", desc := "(IIZ)Z" } : Jvm.MethodName) prog_10_method_8_code (4 : Nat) (Option.some Jvm.ClassFile.FieldType.boolean) ∈ tables_1 := qr3 (List.mem_of_getElem? (i := 160) rfl)
theorem q641 : Jvm.Cond.methodLink "PoliteGathererLaw" (44 : Nat) ({ cls := "PoliteGathererModel", name := "first", desc := "(I)Z" } : Jvm.MethodName) ∈ tables_1 := qr3 (List.mem_of_getElem? (i := 161) rfl)
theorem q642 : Jvm.Cond.instanceMethod ({ cls := "PoliteGathererModel", name := "first", desc := "(I)Z" } : Jvm.MethodName) ∈ tables_1 := qr3 (List.mem_of_getElem? (i := 162) rfl)
theorem q643 : Jvm.Cond.selects "PoliteGathererModel" ({ cls := "PoliteGathererModel", name := "first", desc := "(I)Z" } : Jvm.MethodName) ({ cls := "PoliteGathererModel", name := "first", desc := "(I)Z" } : Jvm.MethodName) ∈ tables_1 := qr3 (List.mem_of_getElem? (i := 163) rfl)
theorem q644 : Jvm.Cond.code ({ cls := "PoliteGathererModel", name := "first", desc := "(I)Z" } : Jvm.MethodName) prog_10_method_9_code (2 : Nat) (Option.some Jvm.ClassFile.FieldType.boolean) ∈ tables_1 := qr3 (List.mem_of_getElem? (i := 164) rfl)
theorem q645 : Jvm.Cond.methodLink "PoliteGathererLaw" (68 : Nat) ({ cls := "PoliteGathererModel", name := "allowed", desc := "(I)Z" } : Jvm.MethodName) ∈ tables_1 := qr3 (List.mem_of_getElem? (i := 165) rfl)
theorem q646 : Jvm.Cond.instanceMethod ({ cls := "PoliteGathererModel", name := "allowed", desc := "(I)Z" } : Jvm.MethodName) ∈ tables_1 := qr3 (List.mem_of_getElem? (i := 166) rfl)
theorem q647 : Jvm.Cond.selects "PoliteGathererModel" ({ cls := "PoliteGathererModel", name := "allowed", desc := "(I)Z" } : Jvm.MethodName) ({ cls := "PoliteGathererModel", name := "allowed", desc := "(I)Z" } : Jvm.MethodName) ∈ tables_1 := qr3 (List.mem_of_getElem? (i := 167) rfl)
theorem q648 : Jvm.Cond.code ({ cls := "PoliteGathererModel", name := "allowed", desc := "(I)Z" } : Jvm.MethodName) prog_10_method_11_code (7 : Nat) (Option.some Jvm.ClassFile.FieldType.boolean) ∈ tables_1 := qr3 (List.mem_of_getElem? (i := 168) rfl)
theorem q649 : Jvm.Cond.methodLink "PoliteGathererModel" (85 : Nat) ({ cls := "PoliteGathererModel", name := "taken", desc := "(II)I" } : Jvm.MethodName) ∈ tables_1 := qr3 (List.mem_of_getElem? (i := 169) rfl)
theorem q651 : Jvm.Cond.instanceMethod ({ cls := "PoliteGathererModel", name := "taken", desc := "(II)I" } : Jvm.MethodName) ∈ tables_1 := qr3 (List.mem_of_getElem? (i := 171) rfl)
theorem q652 : Jvm.Cond.code ({ cls := "PoliteGathererModel", name := "taken", desc := "(II)I" } : Jvm.MethodName) prog_10_method_10_code (5 : Nat) (Option.some Jvm.ClassFile.FieldType.int) ∈ tables_1 := qr3 (List.mem_of_getElem? (i := 172) rfl)
theorem q653 : Jvm.Cond.methodLink "PoliteGathererLaw" (49 : Nat) ({ cls := "PoliteGathererModel", name := "begin", desc := "(IIII)Z" } : Jvm.MethodName) ∈ tables_1 := qr3 (List.mem_of_getElem? (i := 173) rfl)
theorem q654 : Jvm.Cond.instanceMethod ({ cls := "PoliteGathererModel", name := "begin", desc := "(IIII)Z" } : Jvm.MethodName) ∈ tables_1 := qr3 (List.mem_of_getElem? (i := 174) rfl)
theorem q655 : Jvm.Cond.selects "PoliteGathererModel" ({ cls := "PoliteGathererModel", name := "begin", desc := "(IIII)Z" } : Jvm.MethodName) ({ cls := "PoliteGathererModel", name := "begin", desc := "(IIII)Z" } : Jvm.MethodName) ∈ tables_1 := qr3 (List.mem_of_getElem? (i := 175) rfl)
theorem q656 : Jvm.Cond.code ({ cls := "PoliteGathererModel", name := "begin", desc := "(IIII)Z" } : Jvm.MethodName) prog_10_method_19_code (6 : Nat) (Option.some Jvm.ClassFile.FieldType.boolean) ∈ tables_1 := qr3 (List.mem_of_getElem? (i := 176) rfl)
theorem q657 : Jvm.Cond.methodLink "PoliteGathererModel" (134 : Nat) ({ cls := "PoliteGathererModel", name := "queue", desc := "(II)V" } : Jvm.MethodName) ∈ tables_1 := qr3 (List.mem_of_getElem? (i := 177) rfl)
theorem q659 : Jvm.Cond.instanceMethod ({ cls := "PoliteGathererModel", name := "queue", desc := "(II)V" } : Jvm.MethodName) ∈ tables_1 := qr3 (List.mem_of_getElem? (i := 179) rfl)
theorem q660 : Jvm.Cond.code ({ cls := "PoliteGathererModel", name := "queue", desc := "(II)V" } : Jvm.MethodName) prog_10_method_16_code (4 : Nat) (Option.none : Option Jvm.ClassFile.FieldType) ∈ tables_1 := qr3 (List.mem_of_getElem? (i := 180) rfl)
theorem q661 : Jvm.Cond.methodLink "PoliteGathererModel" (144 : Nat) ({ cls := "PoliteGathererModel", name := "mark", desc := "()V" } : Jvm.MethodName) ∈ tables_1 := qr3 (List.mem_of_getElem? (i := 181) rfl)
theorem q663 : Jvm.Cond.instanceMethod ({ cls := "PoliteGathererModel", name := "mark", desc := "()V" } : Jvm.MethodName) ∈ tables_1 := qr3 (List.mem_of_getElem? (i := 183) rfl)
theorem q664 : Jvm.Cond.code ({ cls := "PoliteGathererModel", name := "mark", desc := "()V" } : Jvm.MethodName) prog_10_method_18_code (1 : Nat) (Option.none : Option Jvm.ClassFile.FieldType) ∈ tables_1 := qr3 (List.mem_of_getElem? (i := 184) rfl)
theorem q665 : Jvm.Cond.methodLink "PoliteGathererLaw" (54 : Nat) ({ cls := "PoliteGathererModel", name := "stop", desc := "()Z" } : Jvm.MethodName) ∈ tables_1 := qr3 (List.mem_of_getElem? (i := 185) rfl)
theorem q666 : Jvm.Cond.instanceMethod ({ cls := "PoliteGathererModel", name := "stop", desc := "()Z" } : Jvm.MethodName) ∈ tables_1 := qr3 (List.mem_of_getElem? (i := 186) rfl)
theorem q667 : Jvm.Cond.selects "PoliteGathererModel" ({ cls := "PoliteGathererModel", name := "stop", desc := "()Z" } : Jvm.MethodName) ({ cls := "PoliteGathererModel", name := "stop", desc := "()Z" } : Jvm.MethodName) ∈ tables_1 := qr3 (List.mem_of_getElem? (i := 187) rfl)
theorem q668 : Jvm.Cond.code ({ cls := "PoliteGathererModel", name := "stop", desc := "()Z" } : Jvm.MethodName) prog_10_method_20_code (2 : Nat) (Option.some Jvm.ClassFile.FieldType.boolean) ∈ tables_1 := qr3 (List.mem_of_getElem? (i := 188) rfl)
theorem q669 : Jvm.Cond.methodLink "PoliteGathererLaw" (59 : Nat) ({ cls := "PoliteGathererModel", name := "work", desc := "(I)I" } : Jvm.MethodName) ∈ tables_1 := qr3 (List.mem_of_getElem? (i := 189) rfl)
theorem q670 : Jvm.Cond.instanceMethod ({ cls := "PoliteGathererModel", name := "work", desc := "(I)I" } : Jvm.MethodName) ∈ tables_1 := qr3 (List.mem_of_getElem? (i := 190) rfl)
theorem q671 : Jvm.Cond.selects "PoliteGathererModel" ({ cls := "PoliteGathererModel", name := "work", desc := "(I)I" } : Jvm.MethodName) ({ cls := "PoliteGathererModel", name := "work", desc := "(I)I" } : Jvm.MethodName) ∈ tables_1 := qr3 (List.mem_of_getElem? (i := 191) rfl)
theorem q672 : Jvm.Cond.code ({ cls := "PoliteGathererModel", name := "work", desc := "(I)I" } : Jvm.MethodName) prog_10_method_21_code (4 : Nat) (Option.some Jvm.ClassFile.FieldType.int) ∈ tables_1 := qr3 (List.mem_of_getElem? (i := 192) rfl)
theorem q673 : Jvm.Cond.methodLink "PoliteGathererModel" (159 : Nat) ({ cls := "PoliteGathererModel", name := "handle", desc := "()V" } : Jvm.MethodName) ∈ tables_1 := qr3 (List.mem_of_getElem? (i := 193) rfl)
theorem q675 : Jvm.Cond.instanceMethod ({ cls := "PoliteGathererModel", name := "handle", desc := "()V" } : Jvm.MethodName) ∈ tables_1 := qr3 (List.mem_of_getElem? (i := 195) rfl)
theorem q676 : Jvm.Cond.code ({ cls := "PoliteGathererModel", name := "handle", desc := "()V" } : Jvm.MethodName) prog_10_method_17_code (5 : Nat) (Option.none : Option Jvm.ClassFile.FieldType) ∈ tables_1 := qr3 (List.mem_of_getElem? (i := 196) rfl)
theorem q677 : Jvm.Cond.methodLink "PoliteGathererModel" (123 : Nat) ({ cls := "PoliteGathererModel", name := "chase", desc := "(IZ)I" } : Jvm.MethodName) ∈ tables_1 := qr3 (List.mem_of_getElem? (i := 197) rfl)
theorem q679 : Jvm.Cond.instanceMethod ({ cls := "PoliteGathererModel", name := "chase", desc := "(IZ)I" } : Jvm.MethodName) ∈ tables_1 := qr3 (List.mem_of_getElem? (i := 199) rfl)
theorem q680 : Jvm.Cond.code ({ cls := "PoliteGathererModel", name := "chase", desc := "(IZ)I" } : Jvm.MethodName) prog_10_method_14_code (5 : Nat) (Option.some Jvm.ClassFile.FieldType.int) ∈ tables_1 := qr3 (List.mem_of_getElem? (i := 200) rfl)
theorem q681 : Jvm.Cond.methodLink "PoliteGathererModel" (104 : Nat) ({ cls := "PoliteGathererModel", name := "allowed", desc := "(I)Z" } : Jvm.MethodName) ∈ tables_1 := qr3 (List.mem_of_getElem? (i := 201) rfl)
theorem q682 : Jvm.Cond.methodLink "PoliteGathererModel" (107 : Nat) ({ cls := "PoliteGathererModel", name := "fetch", desc := "(I)V" } : Jvm.MethodName) ∈ tables_1 := qr3 (List.mem_of_getElem? (i := 202) rfl)
theorem q684 : Jvm.Cond.instanceMethod ({ cls := "PoliteGathererModel", name := "fetch", desc := "(I)V" } : Jvm.MethodName) ∈ tables_1 := qr3 (List.mem_of_getElem? (i := 204) rfl)
theorem q685 : Jvm.Cond.code ({ cls := "PoliteGathererModel", name := "fetch", desc := "(I)V" } : Jvm.MethodName) prog_10_method_13_code (4 : Nat) (Option.none : Option Jvm.ClassFile.FieldType) ∈ tables_1 := qr3 (List.mem_of_getElem? (i := 205) rfl)
theorem q686 : Jvm.Cond.methodLink "PoliteGathererModel" (92 : Nat) ({ cls := "PoliteGathererModel", name := "isFetched", desc := "(I)Z" } : Jvm.MethodName) ∈ tables_1 := qr3 (List.mem_of_getElem? (i := 206) rfl)
theorem q688 : Jvm.Cond.instanceMethod ({ cls := "PoliteGathererModel", name := "isFetched", desc := "(I)Z" } : Jvm.MethodName) ∈ tables_1 := qr3 (List.mem_of_getElem? (i := 208) rfl)
theorem q689 : Jvm.Cond.code ({ cls := "PoliteGathererModel", name := "isFetched", desc := "(I)Z" } : Jvm.MethodName) prog_10_method_12_code (4 : Nat) (Option.some Jvm.ClassFile.FieldType.boolean) ∈ tables_1 := qr3 (List.mem_of_getElem? (i := 209) rfl)
theorem q690 : Jvm.Cond.methodLink "PoliteGathererModel" (127 : Nat) ({ cls := "PoliteGathererModel", name := "placeInCorpus", desc := "(I)I" } : Jvm.MethodName) ∈ tables_1 := qr3 (List.mem_of_getElem? (i := 210) rfl)
theorem q692 : Jvm.Cond.instanceMethod ({ cls := "PoliteGathererModel", name := "placeInCorpus", desc := "(I)I" } : Jvm.MethodName) ∈ tables_1 := qr3 (List.mem_of_getElem? (i := 212) rfl)
theorem q693 : Jvm.Cond.code ({ cls := "PoliteGathererModel", name := "placeInCorpus", desc := "(I)I" } : Jvm.MethodName) prog_10_method_15_code (4 : Nat) (Option.some Jvm.ClassFile.FieldType.int) ∈ tables_1 := qr3 (List.mem_of_getElem? (i := 213) rfl)
theorem q694 : Jvm.Cond.methodLink "PoliteGathererLaw" (64 : Nat) ({ cls := "PoliteGathererModel", name := "crash", desc := "()I" } : Jvm.MethodName) ∈ tables_1 := qr3 (List.mem_of_getElem? (i := 214) rfl)
theorem q695 : Jvm.Cond.instanceMethod ({ cls := "PoliteGathererModel", name := "crash", desc := "()I" } : Jvm.MethodName) ∈ tables_1 := qr3 (List.mem_of_getElem? (i := 215) rfl)
theorem q696 : Jvm.Cond.selects "PoliteGathererModel" ({ cls := "PoliteGathererModel", name := "crash", desc := "()I" } : Jvm.MethodName) ({ cls := "PoliteGathererModel", name := "crash", desc := "()I" } : Jvm.MethodName) ∈ tables_1 := qr3 (List.mem_of_getElem? (i := 216) rfl)
theorem q697 : Jvm.Cond.code ({ cls := "PoliteGathererModel", name := "crash", desc := "()I" } : Jvm.MethodName) prog_10_method_22_code (3 : Nat) (Option.some Jvm.ClassFile.FieldType.int) ∈ tables_1 := qr3 (List.mem_of_getElem? (i := 217) rfl)
theorem q698 : Jvm.Cond.methodLink "PoliteGathererLaw" (72 : Nat) ({ cls := "PoliteGathererModel", name := "found", desc := "(I)I" } : Jvm.MethodName) ∈ tables_1 := qr3 (List.mem_of_getElem? (i := 218) rfl)
theorem q699 : Jvm.Cond.instanceMethod ({ cls := "PoliteGathererModel", name := "found", desc := "(I)I" } : Jvm.MethodName) ∈ tables_1 := qr3 (List.mem_of_getElem? (i := 219) rfl)
theorem q700 : Jvm.Cond.selects "PoliteGathererModel" ({ cls := "PoliteGathererModel", name := "found", desc := "(I)I" } : Jvm.MethodName) ({ cls := "PoliteGathererModel", name := "found", desc := "(I)I" } : Jvm.MethodName) ∈ tables_1 := qr3 (List.mem_of_getElem? (i := 220) rfl)
theorem q701 : Jvm.Cond.code ({ cls := "PoliteGathererModel", name := "found", desc := "(I)I" } : Jvm.MethodName) prog_10_method_23_code (2 : Nat) (Option.some Jvm.ClassFile.FieldType.int) ∈ tables_1 := qr3 (List.mem_of_getElem? (i := 221) rfl)
theorem q702 : Jvm.Cond.methodLink "PoliteGathererLaw" (76 : Nat) ({ cls := "PoliteGathererModel", name := "clock", desc := "()I" } : Jvm.MethodName) ∈ tables_1 := qr3 (List.mem_of_getElem? (i := 222) rfl)
theorem q703 : Jvm.Cond.instanceMethod ({ cls := "PoliteGathererModel", name := "clock", desc := "()I" } : Jvm.MethodName) ∈ tables_1 := qr3 (List.mem_of_getElem? (i := 223) rfl)
theorem q704 : Jvm.Cond.selects "PoliteGathererModel" ({ cls := "PoliteGathererModel", name := "clock", desc := "()I" } : Jvm.MethodName) ({ cls := "PoliteGathererModel", name := "clock", desc := "()I" } : Jvm.MethodName) ∈ tables_1 := qr3 (List.mem_of_getElem? (i := 224) rfl)
theorem q705 : Jvm.Cond.code ({ cls := "PoliteGathererModel", name := "clock", desc := "()I" } : Jvm.MethodName) prog_10_method_24_code (1 : Nat) (Option.some Jvm.ClassFile.FieldType.int) ∈ tables_1 := qr3 (List.mem_of_getElem? (i := 225) rfl)
theorem q706 : Jvm.Cond.methodLink "PoliteGathererLaw" (80 : Nat) ({ cls := "PoliteGathererModel", name := "fetches", desc := "()I" } : Jvm.MethodName) ∈ tables_1 := qr3 (List.mem_of_getElem? (i := 226) rfl)
theorem q707 : Jvm.Cond.instanceMethod ({ cls := "PoliteGathererModel", name := "fetches", desc := "()I" } : Jvm.MethodName) ∈ tables_1 := qr3 (List.mem_of_getElem? (i := 227) rfl)
theorem q708 : Jvm.Cond.selects "PoliteGathererModel" ({ cls := "PoliteGathererModel", name := "fetches", desc := "()I" } : Jvm.MethodName) ({ cls := "PoliteGathererModel", name := "fetches", desc := "()I" } : Jvm.MethodName) ∈ tables_1 := qr3 (List.mem_of_getElem? (i := 228) rfl)
theorem q709 : Jvm.Cond.code ({ cls := "PoliteGathererModel", name := "fetches", desc := "()I" } : Jvm.MethodName) prog_10_method_25_code (1 : Nat) (Option.some Jvm.ClassFile.FieldType.int) ∈ tables_1 := qr3 (List.mem_of_getElem? (i := 229) rfl)
theorem q710 : Jvm.Cond.methodLink "PoliteGathererLaw" (84 : Nat) ({ cls := "PoliteGathererModel", name := "waiting", desc := "()I" } : Jvm.MethodName) ∈ tables_1 := qr3 (List.mem_of_getElem? (i := 230) rfl)
theorem q711 : Jvm.Cond.instanceMethod ({ cls := "PoliteGathererModel", name := "waiting", desc := "()I" } : Jvm.MethodName) ∈ tables_1 := qr3 (List.mem_of_getElem? (i := 231) rfl)
theorem q712 : Jvm.Cond.selects "PoliteGathererModel" ({ cls := "PoliteGathererModel", name := "waiting", desc := "()I" } : Jvm.MethodName) ({ cls := "PoliteGathererModel", name := "waiting", desc := "()I" } : Jvm.MethodName) ∈ tables_1 := qr3 (List.mem_of_getElem? (i := 232) rfl)
theorem q713 : Jvm.Cond.code ({ cls := "PoliteGathererModel", name := "waiting", desc := "()I" } : Jvm.MethodName) prog_10_method_26_code (1 : Nat) (Option.some Jvm.ClassFile.FieldType.int) ∈ tables_1 := qr3 (List.mem_of_getElem? (i := 233) rfl)
theorem q714 : Jvm.Cond.methodLink "PoliteGathererLaw" (88 : Nat) ({ cls := "PoliteGathererModel", name := "corpusAt", desc := "(I)I" } : Jvm.MethodName) ∈ tables_1 := qr3 (List.mem_of_getElem? (i := 234) rfl)
theorem q715 : Jvm.Cond.instanceMethod ({ cls := "PoliteGathererModel", name := "corpusAt", desc := "(I)I" } : Jvm.MethodName) ∈ tables_1 := qr3 (List.mem_of_getElem? (i := 235) rfl)
theorem q716 : Jvm.Cond.selects "PoliteGathererModel" ({ cls := "PoliteGathererModel", name := "corpusAt", desc := "(I)I" } : Jvm.MethodName) ({ cls := "PoliteGathererModel", name := "corpusAt", desc := "(I)I" } : Jvm.MethodName) ∈ tables_1 := qr3 (List.mem_of_getElem? (i := 236) rfl)
theorem q717 : Jvm.Cond.code ({ cls := "PoliteGathererModel", name := "corpusAt", desc := "(I)I" } : Jvm.MethodName) prog_10_method_27_code (2 : Nat) (Option.some Jvm.ClassFile.FieldType.int) ∈ tables_1 := qr3 (List.mem_of_getElem? (i := 237) rfl)
theorem q718 : Jvm.Cond.methodLink "PoliteGathererLaw" (92 : Nat) ({ cls := "PoliteGathererModel", name := "document", desc := "(I)I" } : Jvm.MethodName) ∈ tables_1 := qr3 (List.mem_of_getElem? (i := 238) rfl)
theorem q719 : Jvm.Cond.instanceMethod ({ cls := "PoliteGathererModel", name := "document", desc := "(I)I" } : Jvm.MethodName) ∈ tables_1 := qr3 (List.mem_of_getElem? (i := 239) rfl)
theorem q720 : Jvm.Cond.selects "PoliteGathererModel" ({ cls := "PoliteGathererModel", name := "document", desc := "(I)I" } : Jvm.MethodName) ({ cls := "PoliteGathererModel", name := "document", desc := "(I)I" } : Jvm.MethodName) ∈ tables_1 := qr4 (List.mem_of_getElem? (i := 0) rfl)
theorem q721 : Jvm.Cond.code ({ cls := "PoliteGathererModel", name := "document", desc := "(I)I" } : Jvm.MethodName) prog_10_method_29_code (3 : Nat) (Option.some Jvm.ClassFile.FieldType.int) ∈ tables_1 := qr4 (List.mem_of_getElem? (i := 1) rfl)
theorem q722 : Jvm.Cond.methodLink "PoliteGathererModel" (162 : Nat) ({ cls := "PoliteGathererModel", name := "sameBody", desc := "(II)Z" } : Jvm.MethodName) ∈ tables_1 := qr4 (List.mem_of_getElem? (i := 2) rfl)
theorem q724 : Jvm.Cond.instanceMethod ({ cls := "PoliteGathererModel", name := "sameBody", desc := "(II)Z" } : Jvm.MethodName) ∈ tables_1 := qr4 (List.mem_of_getElem? (i := 4) rfl)
theorem q725 : Jvm.Cond.code ({ cls := "PoliteGathererModel", name := "sameBody", desc := "(II)Z" } : Jvm.MethodName) prog_10_method_28_code (5 : Nat) (Option.some Jvm.ClassFile.FieldType.boolean) ∈ tables_1 := qr4 (List.mem_of_getElem? (i := 5) rfl)
theorem q726 : Jvm.Cond.methodLink "PoliteGathererLaw" (97 : Nat) ({ cls := "PoliteGathererModel", name := "rank", desc := "(II)J" } : Jvm.MethodName) ∈ tables_1 := qr4 (List.mem_of_getElem? (i := 6) rfl)
theorem q727 : Jvm.Cond.instanceMethod ({ cls := "PoliteGathererModel", name := "rank", desc := "(II)J" } : Jvm.MethodName) ∈ tables_1 := qr4 (List.mem_of_getElem? (i := 7) rfl)
theorem q728 : Jvm.Cond.selects "PoliteGathererModel" ({ cls := "PoliteGathererModel", name := "rank", desc := "(II)J" } : Jvm.MethodName) ({ cls := "PoliteGathererModel", name := "rank", desc := "(II)J" } : Jvm.MethodName) ∈ tables_1 := qr4 (List.mem_of_getElem? (i := 8) rfl)
theorem q729 : Jvm.Cond.code ({ cls := "PoliteGathererModel", name := "rank", desc := "(II)J" } : Jvm.MethodName) prog_10_method_33_code (3 : Nat) (Option.some Jvm.ClassFile.FieldType.long) ∈ tables_1 := qr4 (List.mem_of_getElem? (i := 9) rfl)
theorem q730 : Jvm.Cond.methodLink "PoliteGathererModel" (181 : Nat) ({ cls := "PoliteGathererModel", name := "isDocument", desc := "(I)Z" } : Jvm.MethodName) ∈ tables_1 := qr4 (List.mem_of_getElem? (i := 10) rfl)
theorem q732 : Jvm.Cond.instanceMethod ({ cls := "PoliteGathererModel", name := "isDocument", desc := "(I)Z" } : Jvm.MethodName) ∈ tables_1 := qr4 (List.mem_of_getElem? (i := 12) rfl)
theorem q733 : Jvm.Cond.code ({ cls := "PoliteGathererModel", name := "isDocument", desc := "(I)Z" } : Jvm.MethodName) prog_10_method_30_code (2 : Nat) (Option.some Jvm.ClassFile.FieldType.boolean) ∈ tables_1 := qr4 (List.mem_of_getElem? (i := 13) rfl)
theorem q734 : Jvm.Cond.methodLink "PoliteGathererModel" (166 : Nat) ({ cls := "PoliteGathererModel", name := "document", desc := "(I)I" } : Jvm.MethodName) ∈ tables_1 := qr4 (List.mem_of_getElem? (i := 14) rfl)
theorem q735 : Jvm.Cond.methodLink "PoliteGathererModel" (184 : Nat) ({ cls := "PoliteGathererModel", name := "rankAll", desc := "(I)V" } : Jvm.MethodName) ∈ tables_1 := qr4 (List.mem_of_getElem? (i := 15) rfl)
theorem q737 : Jvm.Cond.instanceMethod ({ cls := "PoliteGathererModel", name := "rankAll", desc := "(I)V" } : Jvm.MethodName) ∈ tables_1 := qr4 (List.mem_of_getElem? (i := 17) rfl)
theorem q738 : Jvm.Cond.code ({ cls := "PoliteGathererModel", name := "rankAll", desc := "(I)V" } : Jvm.MethodName) prog_10_method_31_code (5 : Nat) (Option.none : Option Jvm.ClassFile.FieldType) ∈ tables_1 := qr4 (List.mem_of_getElem? (i := 18) rfl)
theorem q739 : Jvm.Cond.constantLong "PoliteGathererModel" (169 : Nat) (1000000 : Int64) ∈ tables_1 := qr4 (List.mem_of_getElem? (i := 19) rfl)
theorem q740 : Jvm.Cond.constantLong "PoliteGathererModel" (171 : Nat) (150000 : Int64) ∈ tables_1 := qr4 (List.mem_of_getElem? (i := 20) rfl)
theorem q741 : Jvm.Cond.constantLong "PoliteGathererModel" (173 : Nat) (85 : Int64) ∈ tables_1 := qr4 (List.mem_of_getElem? (i := 21) rfl)
theorem q742 : Jvm.Cond.methodLink "PoliteGathererModel" (175 : Nat) ({ cls := "PoliteGathererModel", name := "sum", desc := "(I)J" } : Jvm.MethodName) ∈ tables_1 := qr4 (List.mem_of_getElem? (i := 22) rfl)
theorem q744 : Jvm.Cond.instanceMethod ({ cls := "PoliteGathererModel", name := "sum", desc := "(I)J" } : Jvm.MethodName) ∈ tables_1 := qr4 (List.mem_of_getElem? (i := 24) rfl)
theorem q745 : Jvm.Cond.code ({ cls := "PoliteGathererModel", name := "sum", desc := "(I)J" } : Jvm.MethodName) prog_10_method_32_code (9 : Nat) (Option.some Jvm.ClassFile.FieldType.long) ∈ tables_1 := qr4 (List.mem_of_getElem? (i := 25) rfl)
theorem q746 : Jvm.Cond.constantLong "PoliteGathererModel" (179 : Nat) (100 : Int64) ∈ tables_1 := qr4 (List.mem_of_getElem? (i := 26) rfl)
theorem q747 : Jvm.Cond.methodLink "PoliteGathererLaw" (102 : Nat) ({ cls := "PoliteGathererModel", name := "best", desc := "(III)I" } : Jvm.MethodName) ∈ tables_1 := qr4 (List.mem_of_getElem? (i := 27) rfl)
theorem q748 : Jvm.Cond.instanceMethod ({ cls := "PoliteGathererModel", name := "best", desc := "(III)I" } : Jvm.MethodName) ∈ tables_1 := qr4 (List.mem_of_getElem? (i := 28) rfl)
theorem q749 : Jvm.Cond.selects "PoliteGathererModel" ({ cls := "PoliteGathererModel", name := "best", desc := "(III)I" } : Jvm.MethodName) ({ cls := "PoliteGathererModel", name := "best", desc := "(III)I" } : Jvm.MethodName) ∈ tables_1 := qr4 (List.mem_of_getElem? (i := 29) rfl)
theorem q750 : Jvm.Cond.code ({ cls := "PoliteGathererModel", name := "best", desc := "(III)I" } : Jvm.MethodName) prog_10_method_36_code (9 : Nat) (Option.some Jvm.ClassFile.FieldType.int) ∈ tables_1 := qr4 (List.mem_of_getElem? (i := 30) rfl)
theorem q751 : Jvm.Cond.methodLink "PoliteGathererModel" (187 : Nat) ({ cls := "PoliteGathererModel", name := "score", desc := "(III)J" } : Jvm.MethodName) ∈ tables_1 := qr4 (List.mem_of_getElem? (i := 31) rfl)
theorem q753 : Jvm.Cond.instanceMethod ({ cls := "PoliteGathererModel", name := "score", desc := "(III)J" } : Jvm.MethodName) ∈ tables_1 := qr4 (List.mem_of_getElem? (i := 33) rfl)
theorem q754 : Jvm.Cond.code ({ cls := "PoliteGathererModel", name := "score", desc := "(III)J" } : Jvm.MethodName) prog_10_method_34_code (7 : Nat) (Option.some Jvm.ClassFile.FieldType.long) ∈ tables_1 := qr4 (List.mem_of_getElem? (i := 34) rfl)
theorem q755 : Jvm.Cond.methodLink "PoliteGathererModel" (191 : Nat) ({ cls := "PoliteGathererModel", name := "comesBefore", desc := "(IIII)Z" } : Jvm.MethodName) ∈ tables_1 := qr4 (List.mem_of_getElem? (i := 35) rfl)
theorem q757 : Jvm.Cond.instanceMethod ({ cls := "PoliteGathererModel", name := "comesBefore", desc := "(IIII)Z" } : Jvm.MethodName) ∈ tables_1 := qr4 (List.mem_of_getElem? (i := 37) rfl)
theorem q758 : Jvm.Cond.code ({ cls := "PoliteGathererModel", name := "comesBefore", desc := "(IIII)Z" } : Jvm.MethodName) prog_10_method_35_code (9 : Nat) (Option.some Jvm.ClassFile.FieldType.boolean) ∈ tables_1 := qr4 (List.mem_of_getElem? (i := 38) rfl)
end
section
/-! The picture of the whole heap: cells by numbers, the abstract state, reading and writing. -/
abbrev gG : Type := va_G × (Nat → ClassId) × (Nat → Nat)
abbrev gA : Type := Nat → Nat → Int32
abbrev gL : Type := Nat → Nat → Int64
abbrev gS : Type := gA × gA × gL
def gty (g : gG) : List (ClassId × FieldType) := [(g.2.1 0, .int), (g.2.1 1, .boolean), (g.2.1 2, .long), (g.2.1 3, .object R_Page), (g.2.1 4, .object R_Host), (g.2.1 5, .array .int)]
def gu (f : gA) (k j : Nat) (v : Int32) : gA := fun k' => if k' = k then upd (f k') j v else f k'
def guL (f : gL) (k j : Nat) (v : Int64) : gL := fun k' => if k' = k then vp_updL (f k') j v else f k'
theorem gu_self (f : gA) (k j : Nat) (v : Int32) : gu f k j v k = upd (f k) j v := if_pos rfl
theorem gu_ne {f : gA} {k k' j : Nat} {v : Int32} (h : k' ≠ k) : gu f k j v k' = f k' := if_neg h
theorem guL_self (f : gL) (k j : Nat) (v : Int64) : guL f k j v k = vp_updL (f k) j v := if_pos rfl
theorem guL_ne {f : gL} {k k' j : Nat} {v : Int64} (h : k' ≠ k) : guL f k j v k' = f k' := if_neg h
theorem gu_hit (f : gA) (k j : Nat) (v : Int32) : gu f k j v k j = v := by rw [gu_self]; exact pk_us
theorem gu_off {f : gA} {k j k' j' : Nat} {v : Int32} (h : ¬ (k' = k ∧ j' = j)) : gu f k j v k' j' = f k' j' := by
  by_cases hk : k' = k
  · subst hk
    rw [gu_self]
    exact pk_un (fun e => h ⟨rfl, e⟩)
  · rw [gu_ne hk]
def gkf : List Nat := [0, 1, 11, 12, 2, 8, 9, 2, 8, 9, 2, 8, 9, 2, 8, 9, 2, 8, 9, 2, 8, 9, 3, 8, 5, 3, 8, 3, 8, 3, 8, 3, 8, 8, 6, 3, 8, 13, 8, 8, 8, 8, 8, 8, 8, 8, 8, 8, 8, 8, 8, 8, 8, 8, 8, 8, 8, 8, 8, 8, 8, 8, 8, 8, 8, 8, 8, 8, 8, 8, 8, 10, 10, 10, 7, 8, 8, 8, 8, 8, 8, 8, 8, 9, 8, 8, 8, 8, 8, 8, 8, 8, 10, 10]
def gnf : List Nat := [0, 0, 0, 0, 0, 4, 4, 0, 4, 4, 0, 4, 4, 0, 4, 4, 0, 4, 4, 0, 4, 4, 0, 6, 0, 0, 32, 0, 32, 0, 32, 0, 32, 6, 0, 0, 32, 0, 5, 5, 5, 5, 5, 5, 5, 5, 5, 5, 5, 5, 5, 5, 5, 5, 5, 5, 5, 5, 5, 5, 5, 5, 5, 5, 5, 5, 5, 5, 5, 5, 32, 32, 32, 32, 0, 32, 32, 32, 256, 32, 160, 32, 24, 24, 6, 6, 32, 32, 32, 32, 6, 160, 32, 32]
def gk (k : Nat) : Nat := if k < 94 then gkf.getD k 0 else [4, 3, 8, 3, 8].getD ((k - 94) % 5) 0
def gn (k : Nat) : Nat := if k < 94 then gnf.getD k 0 else [0, 0, 8, 0, 5].getD ((k - 94) % 5) 0
def gp (p : Nat) : Nat := 94 + 5 * p
theorem gk_p (p : Nat) {r : Nat} (hr : r < 5) : gk (gp p + r) = [4, 3, 8, 3, 8].getD r 0 ∧ gn (gp p + r) = [0, 0, 8, 0, 5].getD r 0 := by
  unfold gk gn gp
  rw [if_neg (by omega), if_neg (by omega), show (94 + 5 * p + r - 94) % 5 = r by omega]
  exact ⟨rfl, rfl⟩
theorem gk_p0 (p : Nat) : gk (gp p) = 4 := (gk_p p (r := 0) (by omega)).1
theorem gk_p1 (p : Nat) : gk (gp p + 1) = 3 := (gk_p p (r := 1) (by omega)).1
theorem gk_p2 (p : Nat) : gk (gp p + 2) = 8 := (gk_p p (r := 2) (by omega)).1
theorem gk_p3 (p : Nat) : gk (gp p + 3) = 3 := (gk_p p (r := 3) (by omega)).1
theorem gk_p4 (p : Nat) : gk (gp p + 4) = 8 := (gk_p p (r := 4) (by omega)).1
theorem gn_p2 (p : Nat) : gn (gp p + 2) = 8 := (gk_p p (r := 2) (by omega)).2
theorem gn_p4 (p : Nat) : gn (gp p + 4) = 5 := (gk_p p (r := 4) (by omega)).2
theorem gk_h0 {h : Nat} (hh : h < 6) : gk (4 + 3 * h) = 2 := (show ∀ h : Fin 6, gk (4 + 3 * h.val) = 2 by decide) ⟨h, hh⟩
theorem gk_h1 {h : Nat} (hh : h < 6) : gk (4 + 3 * h + 1) = 8 ∧ gn (4 + 3 * h + 1) = 4 := (show ∀ h : Fin 6, gk (4 + 3 * h.val + 1) = 8 ∧ gn (4 + 3 * h.val + 1) = 4 by decide) ⟨h, hh⟩
theorem gk_h2 {h : Nat} (hh : h < 6) : gk (4 + 3 * h + 2) = 9 ∧ gn (4 + 3 * h + 2) = 4 := (show ∀ h : Fin 6, gk (4 + 3 * h.val + 2) = 9 ∧ gn (4 + 3 * h.val + 2) = 4 by decide) ⟨h, hh⟩
theorem gk_l {d : Nat} (hd : d < 32) : gk (38 + d) = 8 ∧ gn (38 + d) = 5 := (show ∀ d : Fin 32, gk (38 + d.val) = 8 ∧ gn (38 + d.val) = 5 by decide) ⟨d, hd⟩
abbrev gf0 (ad : Nat → Nat) (r : Nat → Int32) : List Value := [.ref (ad 1), .ref (ad 24), .ref (ad 34), .int (r 3)]
abbrev gf1 (ad : Nat → Nat) (r : Nat → Int32) : List Value := [.ref (ad 2), .ref (ad 3), .ref (ad 22), .int (r 3)]
abbrev gf2 (ad : Nat → Nat) (k : Nat) (r : Nat → Int32) : List Value := [.ref (ad (k + 1)), .ref (ad (k + 2)), .int (r 2)]
abbrev gf3 (ad : Nat → Nat) (k : Nat) (r : Nat → Int32) : List Value := [.ref (ad (k + 1)), .int (r 1)]
abbrev gf4 (g : gG) (ad : Nat → Nat) (k : Nat) (r : Nat → Int32) : List Value := [.int (r 0), .int (r 1), .ref (ad (k + 1)), .ref (ad (k + 3)), .ref (g.2.2 (r 4).toNatClampNeg), .int (r 5)]
abbrev gf5 (ad : Nat → Nat) (r : Nat → Int32) : List Value := [.ref (ad 1), .ref (ad 25), .ref (ad 27), .ref (ad 29), .ref (ad 31), .ref (ad 33), .int (r 6), .int (r 7), .int (r 8), .int (r 9), .int (r 10), .int (r 11), .int (r 12), .int (r 13), .int (r 14), .int (r 15), .int (r 16)]
abbrev gf6 (ad : Nat → Nat) : List Value := [.ref (ad 1), .ref (ad 24), .ref (ad 35), .ref (ad 37), .ref (ad 70), .ref (ad 71), .ref (ad 72), .ref (ad 73)]
abbrev gf7 (ad : Nat → Nat) (r : Nat → Int32) : List Value := [.int (r 0), .ref (ad 75), .ref (ad 76), .ref (ad 77), .ref (ad 78), .ref (ad 79), .ref (ad 80), .ref (ad 81), .ref (ad 82), .ref (ad 83), .ref (ad 84), .ref (ad 85), .int (r 12), .int (r 13), .int (r 14), .int (r 15), .int (r 16), .int (r 17), .ref (ad 86), .ref (ad 87), .int (r 20), .int (r 21), .ref (ad 88), .int (r 23), .ref (ad 89), .int (r 25), .int (r 26), .ref (ad 90), .int (r 28), .int (r 29), .int (r 30), .int (r 31), .int (r 32), .int (r 33), .ref (ad 91), .ref (ad 92), .ref (ad 93)]
def ge (g : gG) (ad : Nat → Nat) (np : Nat) (σ : gA) (τ : gL) (k : Nat) : va_E := match gk k with
  | 0 => .inr (0, gf0 ad (σ k))
  | 1 => .inr (1, gf1 ad (σ k))
  | 2 => .inr (2, gf2 ad k (σ k))
  | 3 => .inr (3, gf3 ad k (σ k))
  | 4 => .inr (4, gf4 g ad k (σ k))
  | 5 => .inr (5, gf5 ad (σ k))
  | 6 => .inr (6, gf6 ad)
  | 7 => .inr (7, gf7 ad (σ k))
  | 8 => .inl (g.2.1 0, gn k, .inl (σ k))
  | 9 => .inl (g.2.1 1, gn k, .inl (σ k))
  | 10 => .inl (g.2.1 2, gn k, .inr (.inl (τ k)))
  | 11 => .inl (g.2.1 3, 32, .inr (.inr (.inr (.inr (fun p => if p < np then some (ad (gp p)) else none)))))
  | 12 => .inl (g.2.1 4, 6, .inr (.inr (.inr (.inr (fun h => some (ad (4 + 3 * h)))))))
  | _ => .inl (g.2.1 5, 32, .inr (.inr (.inr (.inr (fun d => some (ad (38 + d)))))))
theorem ge_0 {g : gG} {ad : Nat → Nat} {np k : Nat} (h : gk k = 0) (σ : gA) (τ : gL) : ge g ad np σ τ k = .inr (0, gf0 ad (σ k)) := by unfold ge; simp only [h]
theorem ge_1 {g : gG} {ad : Nat → Nat} {np k : Nat} (h : gk k = 1) (σ : gA) (τ : gL) : ge g ad np σ τ k = .inr (1, gf1 ad (σ k)) := by unfold ge; simp only [h]
theorem ge_2 {g : gG} {ad : Nat → Nat} {np k : Nat} (h : gk k = 2) (σ : gA) (τ : gL) : ge g ad np σ τ k = .inr (2, gf2 ad k (σ k)) := by unfold ge; simp only [h]
theorem ge_3 {g : gG} {ad : Nat → Nat} {np k : Nat} (h : gk k = 3) (σ : gA) (τ : gL) : ge g ad np σ τ k = .inr (3, gf3 ad k (σ k)) := by unfold ge; simp only [h]
theorem ge_4 {g : gG} {ad : Nat → Nat} {np k : Nat} (h : gk k = 4) (σ : gA) (τ : gL) : ge g ad np σ τ k = .inr (4, gf4 g ad k (σ k)) := by unfold ge; simp only [h]
theorem ge_5 {g : gG} {ad : Nat → Nat} {np k : Nat} (h : gk k = 5) (σ : gA) (τ : gL) : ge g ad np σ τ k = .inr (5, gf5 ad (σ k)) := by unfold ge; simp only [h]
theorem ge_6 {g : gG} {ad : Nat → Nat} {np k : Nat} (h : gk k = 6) (σ : gA) (τ : gL) : ge g ad np σ τ k = .inr (6, gf6 ad) := by unfold ge; simp only [h]
theorem ge_7 {g : gG} {ad : Nat → Nat} {np k : Nat} (h : gk k = 7) (σ : gA) (τ : gL) : ge g ad np σ τ k = .inr (7, gf7 ad (σ k)) := by unfold ge; simp only [h]
theorem ge_8 {g : gG} {ad : Nat → Nat} {np k : Nat} (h : gk k = 8) (σ : gA) (τ : gL) : ge g ad np σ τ k = .inl (g.2.1 0, gn k, .inl (σ k)) := by unfold ge; simp only [h]
theorem ge_9 {g : gG} {ad : Nat → Nat} {np k : Nat} (h : gk k = 9) (σ : gA) (τ : gL) : ge g ad np σ τ k = .inl (g.2.1 1, gn k, .inl (σ k)) := by unfold ge; simp only [h]
theorem ge_10 {g : gG} {ad : Nat → Nat} {np k : Nat} (h : gk k = 10) (σ : gA) (τ : gL) : ge g ad np σ τ k = .inl (g.2.1 2, gn k, .inr (.inl (τ k))) := by unfold ge; simp only [h]
theorem ge_11 {g : gG} {ad : Nat → Nat} {np : Nat} (σ : gA) (τ : gL) : ge g ad np σ τ 2 = .inl (g.2.1 3, 32, .inr (.inr (.inr (.inr (fun p => if p < np then some (ad (gp p)) else none))))) := rfl
theorem ge_12 {g : gG} {ad : Nat → Nat} {np : Nat} (σ : gA) (τ : gL) : ge g ad np σ τ 3 = .inl (g.2.1 4, 6, .inr (.inr (.inr (.inr (fun h => some (ad (4 + 3 * h))))))) := rfl
theorem ge_13 {g : gG} {ad : Nat → Nat} {np : Nat} (σ : gA) (τ : gL) : ge g ad np σ τ 37 = .inl (g.2.1 5, 32, .inr (.inr (.inr (.inr (fun d => some (ad (38 + d))))))) := rfl
theorem ge_congr {g : gG} {ad : Nat → Nat} {np k : Nat} {σ σ' : gA} {τ τ' : gL} (h : σ' k = σ k) (h' : τ' k = τ k) : ge g ad np σ' τ' k = ge g ad np σ τ k := by
  unfold ge
  rw [h, h']
def gw (g : gG) (ad : Nat → Nat) (np : Nat) (σ : gA) (τ : gL) : va_W := (List.range (94 + 5 * np)).map (fun k => (ad k, ge g ad np σ τ k))
theorem gw_at {g : gG} {ad : Nat → Nat} {np k : Nat} {σ : gA} {τ : gL} (hk : k < 94 + 5 * np) : (gw g ad np σ τ)[k]? = some (ad k, ge g ad np σ τ k) := by
  unfold gw
  rw [List.getElem?_map, List.getElem?_range hk]
  rfl
theorem gw_set {g : gG} {ad : Nat → Nat} {np k : Nat} {σ σ' : gA} {τ τ' : gL} {e : va_E} (he : ge g ad np σ' τ' k = e) (ho : ∀ k', k' ≠ k → ge g ad np σ' τ' k' = ge g ad np σ τ k') : (gw g ad np σ τ).set k (ad k, e) = gw g ad np σ' τ' := by
  subst he
  apply List.ext_getElem?
  intro i
  by_cases hi : i < 94 + 5 * np
  · rw [gw_at hi]
    by_cases hik : i = k
    · subst hik
      rw [List.getElem?_set_self (by unfold gw; simpa using hi)]
    · rw [List.getElem?_set_ne (Ne.symm hik), gw_at hi, ho i hik]
  · rw [List.getElem?_eq_none (by unfold gw; simp; omega), List.getElem?_eq_none (by unfold gw; simp; omega)]
def gF : List (Nat × Nat × Nat × Nat × Nat) := [(0, 3, 0, 0, 13), (1, 3, 0, 0, 0), (22, 1, 0, 0, 12), (24, 6, 0, 0, 14), (24, 7, 0, 0, 15), (24, 8, 0, 0, 16), (24, 9, 0, 0, 17), (24, 10, 0, 0, 20), (24, 11, 0, 0, 26), (24, 12, 0, 0, 28), (24, 13, 0, 0, 29), (24, 14, 0, 0, 30), (24, 15, 0, 0, 31), (24, 16, 0, 0, 32), (25, 1, 0, 0, 21), (27, 1, 1, 2, 0), (29, 1, 0, 0, 23), (31, 1, 0, 0, 25), (35, 1, 1, 2, 1), (74, 0, 2, 0, 0), (74, 12, 2, 0, 12), (74, 13, 2, 0, 13), (74, 14, 2, 0, 14), (74, 15, 2, 0, 15), (74, 16, 2, 0, 16), (74, 17, 2, 0, 17), (74, 20, 2, 0, 20), (74, 21, 2, 0, 21), (74, 23, 2, 0, 23), (74, 25, 2, 0, 25), (74, 26, 2, 0, 26), (74, 28, 2, 0, 28), (74, 29, 2, 0, 29), (74, 30, 2, 0, 30), (74, 31, 2, 0, 31), (74, 32, 2, 0, 32), (74, 33, 2, 0, 33)]
def gT : List (Nat × Nat × Nat × Nat × Nat × Nat × Nat × Nat) := [(0, 1, 94, 5, 1, 0, 0, 1), (0, 2, 94, 5, 1, 1, 0, 1), (0, 4, 96, 5, 8, 0, 0, 8), (0, 5, 95, 5, 1, 1, 0, 1), (0, 6, 98, 5, 5, 0, 0, 5), (0, 7, 97, 5, 1, 1, 0, 1), (0, 8, 5, 3, 4, 0, 24, 0), (0, 9, 6, 3, 4, 0, 24, 0), (0, 10, 4, 3, 1, 2, 6, 0), (0, 11, 23, 0, 0, 0, 6, 0), (0, 12, 26, 0, 0, 0, 32, 0), (0, 13, 28, 0, 0, 0, 32, 0), (0, 14, 30, 0, 0, 0, 32, 0), (0, 15, 32, 0, 0, 0, 32, 0), (0, 16, 33, 0, 0, 0, 6, 0), (1, 0, 94, 5, 1, 4, 0, 1), (1, 1, 94, 5, 1, 5, 0, 1), (1, 3, 36, 0, 0, 0, 32, 0), (1, 4, 38, 1, 5, 0, 160, 0), (1, 5, 70, 0, 0, 0, 32, 0), (2, 1, 75, 0, 0, 0, 32, 0), (2, 2, 76, 0, 0, 0, 32, 0), (2, 3, 77, 0, 0, 0, 32, 0), (2, 4, 78, 0, 0, 0, 256, 0), (2, 5, 79, 0, 0, 0, 32, 0), (2, 6, 80, 0, 0, 0, 160, 0), (2, 7, 81, 0, 0, 0, 32, 0), (2, 8, 82, 0, 0, 0, 24, 0), (2, 9, 83, 0, 0, 0, 24, 0), (2, 10, 84, 0, 0, 0, 6, 0), (2, 11, 85, 0, 0, 0, 6, 0), (2, 12, 86, 0, 0, 0, 32, 0), (2, 13, 87, 0, 0, 0, 32, 0), (2, 14, 88, 0, 0, 0, 32, 0), (2, 15, 89, 0, 0, 0, 32, 0), (2, 16, 90, 0, 0, 0, 6, 0), (3, 0, 91, 0, 0, 0, 160, 0)]
def gtf (q : Nat × Nat × Nat) : Option (Nat × Nat × Nat × Nat × Nat × Nat × Nat × Nat) := gT.find? (fun e => e.1 == q.1 && e.2.1 == q.2.1)
def gff (q : Nat × Nat × Nat) : Option (Nat × Nat × Nat × Nat × Nat) := gF.find? (fun e => e.2.2 == q)
/-- the cell and place of an abstract place -/
def gi (q : Nat × Nat × Nat) : Nat × Nat := match gtf q with
  | some (_, _, k0, s, d, j0, _, _) => (k0 + s * (q.2.2 / d), j0 + q.2.2 % d)
  | none => match gff q with
    | some (k, j, _) => (k, j)
    | none => (0, 0)
/-- the abstract places that there are -/
def gv (np : Nat) (q : Nat × Nat × Nat) : Prop := match gtf q with
  | some (_, _, _, _, _, _, b, bp) => q.2.2 < b + bp * np
  | none => (gff q).isSome = true
/-- back: the abstract place of a cell's place -/
def glf (k j : Nat) : Nat × Nat × Nat := match gF.find? (fun e => e.1 == k && e.2.1 == j) with
  | some e => e.2.2
  | none => match gT.find? (fun e => e.2.2.1 == k && e.2.2.2.1 == 0) with
    | some e => (e.1, e.2.1, j)
    | none => if k < 22 then (if (k - 4) % 3 = 0 then (0, 10, (k - 4) / 3) else if (k - 4) % 3 = 1 then (0, 8, 4 * ((k - 4) / 3) + j) else (0, 9, 4 * ((k - 4) / 3) + j)) else (1, 4, 5 * (k - 38) + j)
def glp (p r j : Nat) : Nat × Nat × Nat := if r = 0 then (if j = 0 then (0, 1, p) else if j = 1 then (0, 2, p) else if j = 4 then (1, 0, p) else (1, 1, p)) else if r = 1 then (0, 5, p) else if r = 2 then (0, 4, 8 * p + j) else if r = 3 then (0, 7, p) else (0, 6, 5 * p + j)
def gl (k j : Nat) : Nat × Nat × Nat := if k < 94 then glf k j else glp ((k - 94) / 5) ((k - 94) % 5) j
theorem gl_pg {p r j : Nat} (hr : r < 5) : gl (94 + 5 * p + r) j = glp p r j := by
  unfold gl
  rw [if_neg (by omega), show (94 + 5 * p + r - 94) / 5 = p by omega, show (94 + 5 * p + r - 94) % 5 = r by omega]
theorem gi_0_1 (p : Nat) : gi (0, 1, p) = (gp p, 0) := by
  show (94 + 5 * (p / 1), 0 + p % 1) = _
  unfold gp
  rw [Nat.div_one, Nat.mod_one]
theorem gi_gl_0_1 (p : Nat) : gl (gi (0, 1, p)).1 (gi (0, 1, p)).2 = (0, 1, p) := by
  rw [gi_0_1]
  exact gl_pg (p := p) (r := 0) (j := 0) (by omega)
theorem gi_0_2 (p : Nat) : gi (0, 2, p) = (gp p, 1) := by
  show (94 + 5 * (p / 1), 1 + p % 1) = _
  unfold gp
  rw [Nat.div_one, Nat.mod_one]
theorem gi_gl_0_2 (p : Nat) : gl (gi (0, 2, p)).1 (gi (0, 2, p)).2 = (0, 2, p) := by
  rw [gi_0_2]
  exact gl_pg (p := p) (r := 0) (j := 1) (by omega)
theorem gi_0_4 (p : Nat) {i : Nat} (hi : i < 8) : gi (0, 4, 8 * p + i) = (gp p + 2, i) := by
  show (96 + 5 * ((8 * p + i) / 8), 0 + (8 * p + i) % 8) = _
  unfold gp
  exact Prod.ext (show 96 + 5 * ((8 * p + i) / 8) = 94 + 5 * p + 2 by omega) (show 0 + (8 * p + i) % 8 = i by omega)
theorem gi_gl_0_4 (x : Nat) : gl (gi (0, 4, x)).1 (gi (0, 4, x)).2 = (0, 4, x) := by
  have h := gi_0_4 (x / 8) (i := x % 8) (by omega)
  rw [show 8 * (x / 8) + x % 8 = x by omega] at h
  rw [h]
  refine (gl_pg (p := x / 8) (r := 2) (j := x % 8) (by omega)).trans ?_
  show (0, 4, 8 * (x / 8) + x % 8) = _
  rw [show 8 * (x / 8) + x % 8 = x by omega]
theorem gi_0_5 (p : Nat) : gi (0, 5, p) = (gp p + 1, 1) := by
  show (95 + 5 * (p / 1), 1 + p % 1) = _
  unfold gp
  rw [Nat.div_one, Nat.mod_one]
  exact Prod.ext (show 95 + 5 * p = 94 + 5 * p + 1 by omega) rfl
theorem gi_gl_0_5 (p : Nat) : gl (gi (0, 5, p)).1 (gi (0, 5, p)).2 = (0, 5, p) := by
  rw [gi_0_5]
  exact gl_pg (p := p) (r := 1) (j := 1) (by omega)
theorem gi_0_6 (p : Nat) {i : Nat} (hi : i < 5) : gi (0, 6, 5 * p + i) = (gp p + 4, i) := by
  show (98 + 5 * ((5 * p + i) / 5), 0 + (5 * p + i) % 5) = _
  unfold gp
  exact Prod.ext (show 98 + 5 * ((5 * p + i) / 5) = 94 + 5 * p + 4 by omega) (show 0 + (5 * p + i) % 5 = i by omega)
theorem gi_gl_0_6 (x : Nat) : gl (gi (0, 6, x)).1 (gi (0, 6, x)).2 = (0, 6, x) := by
  have h := gi_0_6 (x / 5) (i := x % 5) (by omega)
  rw [show 5 * (x / 5) + x % 5 = x by omega] at h
  rw [h]
  refine (gl_pg (p := x / 5) (r := 4) (j := x % 5) (by omega)).trans ?_
  show (0, 6, 5 * (x / 5) + x % 5) = _
  rw [show 5 * (x / 5) + x % 5 = x by omega]
theorem gi_0_7 (p : Nat) : gi (0, 7, p) = (gp p + 3, 1) := by
  show (97 + 5 * (p / 1), 1 + p % 1) = _
  unfold gp
  rw [Nat.div_one, Nat.mod_one]
  exact Prod.ext (show 97 + 5 * p = 94 + 5 * p + 3 by omega) rfl
theorem gi_gl_0_7 (p : Nat) : gl (gi (0, 7, p)).1 (gi (0, 7, p)).2 = (0, 7, p) := by
  rw [gi_0_7]
  exact gl_pg (p := p) (r := 3) (j := 1) (by omega)
theorem gi_1_0 (p : Nat) : gi (1, 0, p) = (gp p, 4) := by
  show (94 + 5 * (p / 1), 4 + p % 1) = _
  unfold gp
  rw [Nat.div_one, Nat.mod_one]
theorem gi_gl_1_0 (p : Nat) : gl (gi (1, 0, p)).1 (gi (1, 0, p)).2 = (1, 0, p) := by
  rw [gi_1_0]
  exact gl_pg (p := p) (r := 0) (j := 4) (by omega)
theorem gi_1_1 (p : Nat) : gi (1, 1, p) = (gp p, 5) := by
  show (94 + 5 * (p / 1), 5 + p % 1) = _
  unfold gp
  rw [Nat.div_one, Nat.mod_one]
theorem gi_gl_1_1 (p : Nat) : gl (gi (1, 1, p)).1 (gi (1, 1, p)).2 = (1, 1, p) := by
  rw [gi_1_1]
  exact gl_pg (p := p) (r := 0) (j := 5) (by omega)
theorem gi_gl_0_8 {x : Nat} (hx : x < 24) : gl (gi (0, 8, x)).1 (gi (0, 8, x)).2 = (0, 8, x) := (show ∀ x : Fin 24, gl (gi (0, 8, x.val)).1 (gi (0, 8, x.val)).2 = (0, 8, x.val) by decide +kernel) ⟨x, hx⟩
theorem gi_gl_0_9 {x : Nat} (hx : x < 24) : gl (gi (0, 9, x)).1 (gi (0, 9, x)).2 = (0, 9, x) := (show ∀ x : Fin 24, gl (gi (0, 9, x.val)).1 (gi (0, 9, x.val)).2 = (0, 9, x.val) by decide +kernel) ⟨x, hx⟩
theorem gi_gl_0_10 {x : Nat} (hx : x < 6) : gl (gi (0, 10, x)).1 (gi (0, 10, x)).2 = (0, 10, x) := (show ∀ x : Fin 6, gl (gi (0, 10, x.val)).1 (gi (0, 10, x.val)).2 = (0, 10, x.val) by decide +kernel) ⟨x, hx⟩
theorem gi_gl_1_4 {x : Nat} (hx : x < 160) : gl (gi (1, 4, x)).1 (gi (1, 4, x)).2 = (1, 4, x) := (show ∀ x : Fin 160, gl (gi (1, 4, x.val)).1 (gi (1, 4, x.val)).2 = (1, 4, x.val) by decide +kernel) ⟨x, hx⟩
theorem gi_0_11 (x : Nat) : gi (0, 11, x) = (23, x) := by
  show (23 + 0 * (x / 0), 0 + x % 0) = _
  rw [Nat.zero_mul, Nat.mod_zero, Nat.zero_add]
theorem gi_0_12 (x : Nat) : gi (0, 12, x) = (26, x) := by
  show (26 + 0 * (x / 0), 0 + x % 0) = _
  rw [Nat.zero_mul, Nat.mod_zero, Nat.zero_add]
theorem gi_0_13 (x : Nat) : gi (0, 13, x) = (28, x) := by
  show (28 + 0 * (x / 0), 0 + x % 0) = _
  rw [Nat.zero_mul, Nat.mod_zero, Nat.zero_add]
theorem gi_0_14 (x : Nat) : gi (0, 14, x) = (30, x) := by
  show (30 + 0 * (x / 0), 0 + x % 0) = _
  rw [Nat.zero_mul, Nat.mod_zero, Nat.zero_add]
theorem gi_0_15 (x : Nat) : gi (0, 15, x) = (32, x) := by
  show (32 + 0 * (x / 0), 0 + x % 0) = _
  rw [Nat.zero_mul, Nat.mod_zero, Nat.zero_add]
theorem gi_0_16 (x : Nat) : gi (0, 16, x) = (33, x) := by
  show (33 + 0 * (x / 0), 0 + x % 0) = _
  rw [Nat.zero_mul, Nat.mod_zero, Nat.zero_add]
theorem gi_1_3 (x : Nat) : gi (1, 3, x) = (36, x) := by
  show (36 + 0 * (x / 0), 0 + x % 0) = _
  rw [Nat.zero_mul, Nat.mod_zero, Nat.zero_add]
theorem gi_1_5 (x : Nat) : gi (1, 5, x) = (70, x) := by
  show (70 + 0 * (x / 0), 0 + x % 0) = _
  rw [Nat.zero_mul, Nat.mod_zero, Nat.zero_add]
theorem gi_2_1 (x : Nat) : gi (2, 1, x) = (75, x) := by
  show (75 + 0 * (x / 0), 0 + x % 0) = _
  rw [Nat.zero_mul, Nat.mod_zero, Nat.zero_add]
theorem gi_2_2 (x : Nat) : gi (2, 2, x) = (76, x) := by
  show (76 + 0 * (x / 0), 0 + x % 0) = _
  rw [Nat.zero_mul, Nat.mod_zero, Nat.zero_add]
theorem gi_2_3 (x : Nat) : gi (2, 3, x) = (77, x) := by
  show (77 + 0 * (x / 0), 0 + x % 0) = _
  rw [Nat.zero_mul, Nat.mod_zero, Nat.zero_add]
theorem gi_2_4 (x : Nat) : gi (2, 4, x) = (78, x) := by
  show (78 + 0 * (x / 0), 0 + x % 0) = _
  rw [Nat.zero_mul, Nat.mod_zero, Nat.zero_add]
theorem gi_2_5 (x : Nat) : gi (2, 5, x) = (79, x) := by
  show (79 + 0 * (x / 0), 0 + x % 0) = _
  rw [Nat.zero_mul, Nat.mod_zero, Nat.zero_add]
theorem gi_2_6 (x : Nat) : gi (2, 6, x) = (80, x) := by
  show (80 + 0 * (x / 0), 0 + x % 0) = _
  rw [Nat.zero_mul, Nat.mod_zero, Nat.zero_add]
theorem gi_2_7 (x : Nat) : gi (2, 7, x) = (81, x) := by
  show (81 + 0 * (x / 0), 0 + x % 0) = _
  rw [Nat.zero_mul, Nat.mod_zero, Nat.zero_add]
theorem gi_2_8 (x : Nat) : gi (2, 8, x) = (82, x) := by
  show (82 + 0 * (x / 0), 0 + x % 0) = _
  rw [Nat.zero_mul, Nat.mod_zero, Nat.zero_add]
theorem gi_2_9 (x : Nat) : gi (2, 9, x) = (83, x) := by
  show (83 + 0 * (x / 0), 0 + x % 0) = _
  rw [Nat.zero_mul, Nat.mod_zero, Nat.zero_add]
theorem gi_2_10 (x : Nat) : gi (2, 10, x) = (84, x) := by
  show (84 + 0 * (x / 0), 0 + x % 0) = _
  rw [Nat.zero_mul, Nat.mod_zero, Nat.zero_add]
theorem gi_2_11 (x : Nat) : gi (2, 11, x) = (85, x) := by
  show (85 + 0 * (x / 0), 0 + x % 0) = _
  rw [Nat.zero_mul, Nat.mod_zero, Nat.zero_add]
theorem gi_2_12 (x : Nat) : gi (2, 12, x) = (86, x) := by
  show (86 + 0 * (x / 0), 0 + x % 0) = _
  rw [Nat.zero_mul, Nat.mod_zero, Nat.zero_add]
theorem gi_2_13 (x : Nat) : gi (2, 13, x) = (87, x) := by
  show (87 + 0 * (x / 0), 0 + x % 0) = _
  rw [Nat.zero_mul, Nat.mod_zero, Nat.zero_add]
theorem gi_2_14 (x : Nat) : gi (2, 14, x) = (88, x) := by
  show (88 + 0 * (x / 0), 0 + x % 0) = _
  rw [Nat.zero_mul, Nat.mod_zero, Nat.zero_add]
theorem gi_2_15 (x : Nat) : gi (2, 15, x) = (89, x) := by
  show (89 + 0 * (x / 0), 0 + x % 0) = _
  rw [Nat.zero_mul, Nat.mod_zero, Nat.zero_add]
theorem gi_2_16 (x : Nat) : gi (2, 16, x) = (90, x) := by
  show (90 + 0 * (x / 0), 0 + x % 0) = _
  rw [Nat.zero_mul, Nat.mod_zero, Nat.zero_add]
theorem gi_3_0 (x : Nat) : gi (3, 0, x) = (91, x) := by
  show (91 + 0 * (x / 0), 0 + x % 0) = _
  rw [Nat.zero_mul, Nat.mod_zero, Nat.zero_add]
theorem gi_gl_F : ∀ e ∈ gF, gl (gi e.2.2).1 (gi e.2.2).2 = e.2.2 := by decide +kernel
theorem gi_gl_0_11 (x : Nat) : gl (gi (0, 11, x)).1 (gi (0, 11, x)).2 = (0, 11, x) := by
  rw [gi_0_11]
  rfl
theorem gi_gl_0_12 (x : Nat) : gl (gi (0, 12, x)).1 (gi (0, 12, x)).2 = (0, 12, x) := by
  rw [gi_0_12]
  rfl
theorem gi_gl_0_13 (x : Nat) : gl (gi (0, 13, x)).1 (gi (0, 13, x)).2 = (0, 13, x) := by
  rw [gi_0_13]
  rfl
theorem gi_gl_0_14 (x : Nat) : gl (gi (0, 14, x)).1 (gi (0, 14, x)).2 = (0, 14, x) := by
  rw [gi_0_14]
  rfl
theorem gi_gl_0_15 (x : Nat) : gl (gi (0, 15, x)).1 (gi (0, 15, x)).2 = (0, 15, x) := by
  rw [gi_0_15]
  rfl
theorem gi_gl_0_16 (x : Nat) : gl (gi (0, 16, x)).1 (gi (0, 16, x)).2 = (0, 16, x) := by
  rw [gi_0_16]
  rfl
theorem gi_gl_1_3 (x : Nat) : gl (gi (1, 3, x)).1 (gi (1, 3, x)).2 = (1, 3, x) := by
  rw [gi_1_3]
  rfl
theorem gi_gl_1_5 (x : Nat) : gl (gi (1, 5, x)).1 (gi (1, 5, x)).2 = (1, 5, x) := by
  rw [gi_1_5]
  rfl
theorem gi_gl_2_1 (x : Nat) : gl (gi (2, 1, x)).1 (gi (2, 1, x)).2 = (2, 1, x) := by
  rw [gi_2_1]
  rfl
theorem gi_gl_2_2 (x : Nat) : gl (gi (2, 2, x)).1 (gi (2, 2, x)).2 = (2, 2, x) := by
  rw [gi_2_2]
  rfl
theorem gi_gl_2_3 (x : Nat) : gl (gi (2, 3, x)).1 (gi (2, 3, x)).2 = (2, 3, x) := by
  rw [gi_2_3]
  rfl
theorem gi_gl_2_4 (x : Nat) : gl (gi (2, 4, x)).1 (gi (2, 4, x)).2 = (2, 4, x) := by
  rw [gi_2_4]
  rfl
theorem gi_gl_2_5 (x : Nat) : gl (gi (2, 5, x)).1 (gi (2, 5, x)).2 = (2, 5, x) := by
  rw [gi_2_5]
  rfl
theorem gi_gl_2_6 (x : Nat) : gl (gi (2, 6, x)).1 (gi (2, 6, x)).2 = (2, 6, x) := by
  rw [gi_2_6]
  rfl
theorem gi_gl_2_7 (x : Nat) : gl (gi (2, 7, x)).1 (gi (2, 7, x)).2 = (2, 7, x) := by
  rw [gi_2_7]
  rfl
theorem gi_gl_2_8 (x : Nat) : gl (gi (2, 8, x)).1 (gi (2, 8, x)).2 = (2, 8, x) := by
  rw [gi_2_8]
  rfl
theorem gi_gl_2_9 (x : Nat) : gl (gi (2, 9, x)).1 (gi (2, 9, x)).2 = (2, 9, x) := by
  rw [gi_2_9]
  rfl
theorem gi_gl_2_10 (x : Nat) : gl (gi (2, 10, x)).1 (gi (2, 10, x)).2 = (2, 10, x) := by
  rw [gi_2_10]
  rfl
theorem gi_gl_2_11 (x : Nat) : gl (gi (2, 11, x)).1 (gi (2, 11, x)).2 = (2, 11, x) := by
  rw [gi_2_11]
  rfl
theorem gi_gl_2_12 (x : Nat) : gl (gi (2, 12, x)).1 (gi (2, 12, x)).2 = (2, 12, x) := by
  rw [gi_2_12]
  rfl
theorem gi_gl_2_13 (x : Nat) : gl (gi (2, 13, x)).1 (gi (2, 13, x)).2 = (2, 13, x) := by
  rw [gi_2_13]
  rfl
theorem gi_gl_2_14 (x : Nat) : gl (gi (2, 14, x)).1 (gi (2, 14, x)).2 = (2, 14, x) := by
  rw [gi_2_14]
  rfl
theorem gi_gl_2_15 (x : Nat) : gl (gi (2, 15, x)).1 (gi (2, 15, x)).2 = (2, 15, x) := by
  rw [gi_2_15]
  rfl
theorem gi_gl_2_16 (x : Nat) : gl (gi (2, 16, x)).1 (gi (2, 16, x)).2 = (2, 16, x) := by
  rw [gi_2_16]
  rfl
theorem gi_gl_3_0 (x : Nat) : gl (gi (3, 0, x)).1 (gi (3, 0, x)).2 = (3, 0, x) := by
  rw [gi_3_0]
  rfl
theorem gl_gi {np : Nat} {q : Nat × Nat × Nat} (h : gv np q) : gl (gi q).1 (gi q).2 = q := by
  obtain ⟨sp, row, x⟩ := q
  unfold gv at h
  cases ht : gtf (sp, row, x) with
  | some e =>
    rw [ht] at h
    have hm := List.mem_of_find?_eq_some ht
    have hp := List.find?_some ht
    simp only [Bool.and_eq_true, beq_iff_eq] at hp
    obtain ⟨h1, h2⟩ := hp
    subst h1
    subst h2
    simp only [gT, List.mem_cons, List.not_mem_nil, or_false] at hm
    rcases hm with rfl | rfl | rfl | rfl | rfl | rfl | rfl | rfl | rfl | rfl | rfl | rfl | rfl | rfl | rfl | rfl | rfl | rfl | rfl | rfl | rfl | rfl | rfl | rfl | rfl | rfl | rfl | rfl | rfl | rfl | rfl | rfl | rfl | rfl | rfl | rfl | rfl
    · exact gi_gl_0_1 x
    · exact gi_gl_0_2 x
    · exact gi_gl_0_4 x
    · exact gi_gl_0_5 x
    · exact gi_gl_0_6 x
    · exact gi_gl_0_7 x
    · exact gi_gl_0_8 (by simpa using h)
    · exact gi_gl_0_9 (by simpa using h)
    · exact gi_gl_0_10 (by simpa using h)
    · exact gi_gl_0_11 x
    · exact gi_gl_0_12 x
    · exact gi_gl_0_13 x
    · exact gi_gl_0_14 x
    · exact gi_gl_0_15 x
    · exact gi_gl_0_16 x
    · exact gi_gl_1_0 x
    · exact gi_gl_1_1 x
    · exact gi_gl_1_3 x
    · exact gi_gl_1_4 (by simpa using h)
    · exact gi_gl_1_5 x
    · exact gi_gl_2_1 x
    · exact gi_gl_2_2 x
    · exact gi_gl_2_3 x
    · exact gi_gl_2_4 x
    · exact gi_gl_2_5 x
    · exact gi_gl_2_6 x
    · exact gi_gl_2_7 x
    · exact gi_gl_2_8 x
    · exact gi_gl_2_9 x
    · exact gi_gl_2_10 x
    · exact gi_gl_2_11 x
    · exact gi_gl_2_12 x
    · exact gi_gl_2_13 x
    · exact gi_gl_2_14 x
    · exact gi_gl_2_15 x
    · exact gi_gl_2_16 x
    · exact gi_gl_3_0 x
  | none =>
    rw [ht] at h
    cases hf : gff (sp, row, x) with
    | none => rw [hf] at h; cases h
    | some e =>
      have hm := List.mem_of_find?_eq_some hf
      have hp := List.find?_some hf
      simp only [beq_iff_eq] at hp
      have h3 := gi_gl_F e hm
      rw [hp] at h3
      exact h3
theorem gi_inj {np : Nat} {q q' : Nat × Nat × Nat} (h : gv np q) (h' : gv np q') (he : gi q = gi q') : q = q' := by
  rw [← gl_gi h, ← gl_gi h', he]
theorem gv_sp {np : Nat} {q : Nat × Nat × Nat} (h : gv np q) : q.1 < 4 := by
  obtain ⟨sp, row, x⟩ := q
  unfold gv at h
  cases ht : gtf (sp, row, x) with
  | some e =>
    have hm := List.mem_of_find?_eq_some ht
    have hp := List.find?_some ht
    simp only [Bool.and_eq_true, beq_iff_eq] at hp
    have h4 : ∀ e ∈ gT, e.1 < 4 := by decide
    show sp < 4
    rw [← hp.1]
    exact h4 e hm
  | none =>
    rw [ht] at h
    cases hf : gff (sp, row, x) with
    | none => rw [hf] at h; cases h
    | some e =>
      have hm := List.mem_of_find?_eq_some hf
      have hp := List.find?_some hf
      simp only [beq_iff_eq] at hp
      have h4 : ∀ e ∈ gF, e.2.2.1 < 4 := by decide
      have h5 := h4 e hm
      rw [hp] at h5
      exact h5
def gr (u v : gS) (q : Nat × Nat × Nat) : Int32 := match q.1 with
  | 0 => u.1 q.2.1 q.2.2
  | 1 => u.2.1 q.2.1 q.2.2
  | 2 => v.1 q.2.1 q.2.2
  | _ => v.2.1 q.2.1 q.2.2
def gx (u v : gS) (q : Nat × Nat × Nat) (x : Int32) : gS × gS := match q.1 with
  | 0 => ((gu u.1 q.2.1 q.2.2 x, u.2.1, u.2.2), v)
  | 1 => ((u.1, gu u.2.1 q.2.1 q.2.2 x, u.2.2), v)
  | 2 => (u, (gu v.1 q.2.1 q.2.2 x, v.2.1, v.2.2))
  | _ => (u, (v.1, gu v.2.1 q.2.1 q.2.2 x, v.2.2))
theorem gr_gx_self (u v : gS) (q : Nat × Nat × Nat) (x : Int32) : gr (gx u v q x).1 (gx u v q x).2 q = x := by
  obtain ⟨sp, row, i⟩ := q
  match sp with
  | 0 => exact gu_hit _ _ _ _
  | 1 => exact gu_hit _ _ _ _
  | 2 => exact gu_hit _ _ _ _
  | _ + 3 => exact gu_hit _ _ _ _
theorem gr_gx_ne {u v : gS} {q q' : Nat × Nat × Nat} {x : Int32} (h : q' ≠ q) (hs : q.1 < 4) (hs' : q'.1 < 4) : gr (gx u v q x).1 (gx u v q x).2 q' = gr u v q' := by
  obtain ⟨sp, row, i⟩ := q
  obtain ⟨sp', row', i'⟩ := q'
  have key : sp' = sp → ¬ (row' = row ∧ i' = i) := fun e1 e2 => h (by rw [e1, e2.1, e2.2])
  match sp, sp', hs, hs' with
  | 0, 0, _, _ => exact gu_off (key rfl)
  | 1, 1, _, _ => exact gu_off (key rfl)
  | 2, 2, _, _ => exact gu_off (key rfl)
  | 3, 3, _, _ => exact gu_off (key rfl)
  | 0, 1, _, _ => rfl
  | 0, 2, _, _ => rfl
  | 0, 3, _, _ => rfl
  | 1, 0, _, _ => rfl
  | 1, 2, _, _ => rfl
  | 1, 3, _, _ => rfl
  | 2, 0, _, _ => rfl
  | 2, 1, _, _ => rfl
  | 2, 3, _, _ => rfl
  | 3, 0, _, _ => rfl
  | 3, 1, _, _ => rfl
  | 3, 2, _, _ => rfl
theorem gx_l (u v : gS) (q : Nat × Nat × Nat) (x : Int32) : (gx u v q x).1.2.2 = u.2.2 ∧ (gx u v q x).2.2.2 = v.2.2 := by
  obtain ⟨sp, row, i⟩ := q
  match sp with
  | 0 => exact ⟨rfl, rfl⟩
  | 1 => exact ⟨rfl, rfl⟩
  | 2 => exact ⟨rfl, rfl⟩
  | _ + 3 => exact ⟨rfl, rfl⟩
/-- the world: the whole picture, the class's state u, the reference's state v -/
def gW (g : gG) (A : Nat → Prop) (ad : Nat → Nat) (np : Nat) (u v : gS) (H : Heap) : Prop := ∃ (σ : gA) (τ : gL), va_P g.1 gcl (gw g ad np σ τ) H ∧ va_D A (gw g ad np σ τ) ∧ (∀ q, gv np q → σ (gi q).1 (gi q).2 = gr u v q) ∧ (∀ k, k < 3 → τ (71 + k) = u.2.2 k) ∧ (∀ k, k < 2 → τ (92 + k) = v.2.2 k)
theorem gW_wr {g : gG} {A : Nat → Prop} {ad : Nat → Nat} {np k j : Nat} {u v : gS} {σ : gA} {τ : gL} {x : Int32} {q : Nat × Nat × Nat} {e : va_E} {H1 : Heap} (hq : gv np q) (hg : gi q = (k, j)) (hr : ∀ q, gv np q → σ (gi q).1 (gi q).2 = gr u v q) (hl1 : ∀ k, k < 3 → τ (71 + k) = u.2.2 k) (hl2 : ∀ k, k < 2 → τ (92 + k) = v.2.2 k)
    (he : ge g ad np (gu σ k j x) τ k = e) (hP : va_P g.1 gcl ((gw g ad np σ τ).set k (ad k, e)) H1) (hD : va_D A ((gw g ad np σ τ).set k (ad k, e))) : gW g A ad np (gx u v q x).1 (gx u v q x).2 H1 := by
  have hs := gw_set (g := g) (ad := ad) (np := np) (k := k) (σ := σ) (σ' := gu σ k j x) (τ := τ) (τ' := τ) he (fun k' hk' => ge_congr (gu_ne hk') rfl)
  rw [hs] at hP hD
  refine ⟨_, _, hP, hD, fun q' hq' => ?_, fun k hk => ?_, fun k hk => ?_⟩
  · by_cases e : q' = q
    · subst e
      rw [hg, gr_gx_self]
      exact gu_hit _ _ _ _
    · rw [gr_gx_ne e (gv_sp hq) (gv_sp hq'), ← hr q' hq']
      exact gu_off (fun h => e (gi_inj hq' hq (by rw [hg]; exact Prod.ext h.1 h.2)))
  · rw [(gx_l u v q x).1]; exact hl1 k hk
  · rw [(gx_l u v q x).2]; exact hl2 k hk
theorem gW_wrL {g : gG} {A : Nat → Prop} {ad : Nat → Nat} {np k j : Nat} {u v : gS} {σ : gA} {τ : gL} {x : Int64} {e : va_E} {H1 : Heap} (hk : k < 3) (hr : ∀ q, gv np q → σ (gi q).1 (gi q).2 = gr u v q) (hl1 : ∀ k, k < 3 → τ (71 + k) = u.2.2 k) (hl2 : ∀ k, k < 2 → τ (92 + k) = v.2.2 k)
    (he : ge g ad np σ (guL τ (71 + k) j x) (71 + k) = e) (hP : va_P g.1 gcl ((gw g ad np σ τ).set (71 + k) (ad (71 + k), e)) H1) (hD : va_D A ((gw g ad np σ τ).set (71 + k) (ad (71 + k), e))) : gW g A ad np (u.1, u.2.1, guL u.2.2 k j x) v H1 := by
  have hs := gw_set (g := g) (ad := ad) (np := np) (k := 71 + k) (σ := σ) (σ' := σ) (τ := τ) (τ' := guL τ (71 + k) j x) he (fun k' hk' => ge_congr rfl (guL_ne hk'))
  rw [hs] at hP hD
  refine ⟨_, _, hP, hD, fun q' hq' => ?_, fun k' hk' => ?_, fun k' hk' => ?_⟩
  · rw [hr q' hq']
    obtain ⟨sp, row, i⟩ := q'
    match sp with
    | 0 => rfl
    | 1 => rfl
    | 2 => rfl
    | _ + 3 => rfl
  · by_cases e : k' = k
    · subst e
      rw [guL_self, hl1 k' hk']
      exact (guL_self _ _ _ _).symm
    · rw [guL_ne (show 71 + k' ≠ 71 + k by omega), hl1 k' hk']
      exact (guL_ne e).symm
  · rw [guL_ne (show 92 + k' ≠ 71 + k by omega)]
    exact hl2 k' hk'
theorem gW_wrM {g : gG} {A : Nat → Prop} {ad : Nat → Nat} {np k j : Nat} {u v : gS} {σ : gA} {τ : gL} {x : Int64} {e : va_E} {H1 : Heap} (hk : k < 2) (hr : ∀ q, gv np q → σ (gi q).1 (gi q).2 = gr u v q) (hl1 : ∀ k, k < 3 → τ (71 + k) = u.2.2 k) (hl2 : ∀ k, k < 2 → τ (92 + k) = v.2.2 k)
    (he : ge g ad np σ (guL τ (92 + k) j x) (92 + k) = e) (hP : va_P g.1 gcl ((gw g ad np σ τ).set (92 + k) (ad (92 + k), e)) H1) (hD : va_D A ((gw g ad np σ τ).set (92 + k) (ad (92 + k), e))) : gW g A ad np u (v.1, v.2.1, guL v.2.2 k j x) H1 := by
  have hs := gw_set (g := g) (ad := ad) (np := np) (k := 92 + k) (σ := σ) (σ' := σ) (τ := τ) (τ' := guL τ (92 + k) j x) he (fun k' hk' => ge_congr rfl (guL_ne hk'))
  rw [hs] at hP hD
  refine ⟨_, _, hP, hD, fun q' hq' => ?_, fun k' hk' => ?_, fun k' hk' => ?_⟩
  · rw [hr q' hq']
    obtain ⟨sp, row, i⟩ := q'
    match sp with
    | 0 => rfl
    | 1 => rfl
    | 2 => rfl
    | _ + 3 => rfl
  · rw [guL_ne (show 71 + k' ≠ 92 + k by omega)]
    exact hl1 k' hk'
  · by_cases e : k' = k
    · subst e
      rw [guL_self, hl2 k' hk']
      exact (guL_self _ _ _ _).symm
    · rw [guL_ne (show 92 + k' ≠ 92 + k by omega), hl2 k' hk']
      exact (guL_ne e).symm
theorem gv_0_0_13 (np : Nat) : gv np (0, 0, 13) := show (gff (0, 0, 13)).isSome = true from rfl
theorem gv_0_0_0 (np : Nat) : gv np (0, 0, 0) := show (gff (0, 0, 0)).isSome = true from rfl
theorem gv_0_0_12 (np : Nat) : gv np (0, 0, 12) := show (gff (0, 0, 12)).isSome = true from rfl
theorem gv_0_0_14 (np : Nat) : gv np (0, 0, 14) := show (gff (0, 0, 14)).isSome = true from rfl
theorem gv_0_0_15 (np : Nat) : gv np (0, 0, 15) := show (gff (0, 0, 15)).isSome = true from rfl
theorem gv_0_0_16 (np : Nat) : gv np (0, 0, 16) := show (gff (0, 0, 16)).isSome = true from rfl
theorem gv_0_0_17 (np : Nat) : gv np (0, 0, 17) := show (gff (0, 0, 17)).isSome = true from rfl
theorem gv_0_0_20 (np : Nat) : gv np (0, 0, 20) := show (gff (0, 0, 20)).isSome = true from rfl
theorem gv_0_0_26 (np : Nat) : gv np (0, 0, 26) := show (gff (0, 0, 26)).isSome = true from rfl
theorem gv_0_0_28 (np : Nat) : gv np (0, 0, 28) := show (gff (0, 0, 28)).isSome = true from rfl
theorem gv_0_0_29 (np : Nat) : gv np (0, 0, 29) := show (gff (0, 0, 29)).isSome = true from rfl
theorem gv_0_0_30 (np : Nat) : gv np (0, 0, 30) := show (gff (0, 0, 30)).isSome = true from rfl
theorem gv_0_0_31 (np : Nat) : gv np (0, 0, 31) := show (gff (0, 0, 31)).isSome = true from rfl
theorem gv_0_0_32 (np : Nat) : gv np (0, 0, 32) := show (gff (0, 0, 32)).isSome = true from rfl
theorem gv_0_0_21 (np : Nat) : gv np (0, 0, 21) := show (gff (0, 0, 21)).isSome = true from rfl
theorem gv_1_2_0 (np : Nat) : gv np (1, 2, 0) := show (gff (1, 2, 0)).isSome = true from rfl
theorem gv_0_0_23 (np : Nat) : gv np (0, 0, 23) := show (gff (0, 0, 23)).isSome = true from rfl
theorem gv_0_0_25 (np : Nat) : gv np (0, 0, 25) := show (gff (0, 0, 25)).isSome = true from rfl
theorem gv_1_2_1 (np : Nat) : gv np (1, 2, 1) := show (gff (1, 2, 1)).isSome = true from rfl
theorem gv_2_0_0 (np : Nat) : gv np (2, 0, 0) := show (gff (2, 0, 0)).isSome = true from rfl
theorem gv_2_0_12 (np : Nat) : gv np (2, 0, 12) := show (gff (2, 0, 12)).isSome = true from rfl
theorem gv_2_0_13 (np : Nat) : gv np (2, 0, 13) := show (gff (2, 0, 13)).isSome = true from rfl
theorem gv_2_0_14 (np : Nat) : gv np (2, 0, 14) := show (gff (2, 0, 14)).isSome = true from rfl
theorem gv_2_0_15 (np : Nat) : gv np (2, 0, 15) := show (gff (2, 0, 15)).isSome = true from rfl
theorem gv_2_0_16 (np : Nat) : gv np (2, 0, 16) := show (gff (2, 0, 16)).isSome = true from rfl
theorem gv_2_0_17 (np : Nat) : gv np (2, 0, 17) := show (gff (2, 0, 17)).isSome = true from rfl
theorem gv_2_0_20 (np : Nat) : gv np (2, 0, 20) := show (gff (2, 0, 20)).isSome = true from rfl
theorem gv_2_0_21 (np : Nat) : gv np (2, 0, 21) := show (gff (2, 0, 21)).isSome = true from rfl
theorem gv_2_0_23 (np : Nat) : gv np (2, 0, 23) := show (gff (2, 0, 23)).isSome = true from rfl
theorem gv_2_0_25 (np : Nat) : gv np (2, 0, 25) := show (gff (2, 0, 25)).isSome = true from rfl
theorem gv_2_0_26 (np : Nat) : gv np (2, 0, 26) := show (gff (2, 0, 26)).isSome = true from rfl
theorem gv_2_0_28 (np : Nat) : gv np (2, 0, 28) := show (gff (2, 0, 28)).isSome = true from rfl
theorem gv_2_0_29 (np : Nat) : gv np (2, 0, 29) := show (gff (2, 0, 29)).isSome = true from rfl
theorem gv_2_0_30 (np : Nat) : gv np (2, 0, 30) := show (gff (2, 0, 30)).isSome = true from rfl
theorem gv_2_0_31 (np : Nat) : gv np (2, 0, 31) := show (gff (2, 0, 31)).isSome = true from rfl
theorem gv_2_0_32 (np : Nat) : gv np (2, 0, 32) := show (gff (2, 0, 32)).isSome = true from rfl
theorem gv_2_0_33 (np : Nat) : gv np (2, 0, 33) := show (gff (2, 0, 33)).isSome = true from rfl
theorem gv_0_1 {np p : Nat} (hp : p < np) : gv np (0, 1, p) := show p < 0 + 1 * np by omega
theorem gv_0_2 {np p : Nat} (hp : p < np) : gv np (0, 2, p) := show p < 0 + 1 * np by omega
theorem gv_0_4 {np p i : Nat} (hp : p < np) (hi : i < 8) : gv np (0, 4, 8 * p + i) := show 8 * p + i < 0 + 8 * np by omega
theorem gv_0_5 {np p : Nat} (hp : p < np) : gv np (0, 5, p) := show p < 0 + 1 * np by omega
theorem gv_0_6 {np p i : Nat} (hp : p < np) (hi : i < 5) : gv np (0, 6, 5 * p + i) := show 5 * p + i < 0 + 5 * np by omega
theorem gv_0_7 {np p : Nat} (hp : p < np) : gv np (0, 7, p) := show p < 0 + 1 * np by omega
theorem gv_0_8 {np h i : Nat} (hh : h < 6) (hi : i < 4) : gv np (0, 8, 4 * h + i) := show 4 * h + i < 24 + 0 * np by omega
theorem gi_0_8 (h : Nat) {i : Nat} (hi : i < 4) : gi (0, 8, 4 * h + i) = (4 + 3 * h + 1, i) := by
  show (5 + 3 * ((4 * h + i) / 4), 0 + (4 * h + i) % 4) = _
  exact Prod.ext (show 5 + 3 * ((4 * h + i) / 4) = 4 + 3 * h + 1 by omega) (show 0 + (4 * h + i) % 4 = i by omega)
theorem gv_0_9 {np h i : Nat} (hh : h < 6) (hi : i < 4) : gv np (0, 9, 4 * h + i) := show 4 * h + i < 24 + 0 * np by omega
theorem gi_0_9 (h : Nat) {i : Nat} (hi : i < 4) : gi (0, 9, 4 * h + i) = (4 + 3 * h + 2, i) := by
  show (6 + 3 * ((4 * h + i) / 4), 0 + (4 * h + i) % 4) = _
  exact Prod.ext (show 6 + 3 * ((4 * h + i) / 4) = 4 + 3 * h + 2 by omega) (show 0 + (4 * h + i) % 4 = i by omega)
theorem gv_0_10 {np h : Nat} (hh : h < 6) : gv np (0, 10, h) := show h < 6 + 0 * np by omega
theorem gi_0_10 (h : Nat) : gi (0, 10, h) = (4 + 3 * h, 2) := by
  show (4 + 3 * (h / 1), 2 + h % 1) = _
  rw [Nat.div_one, Nat.mod_one]
theorem gv_0_11 {np x : Nat} (hx : x < 6) : gv np (0, 11, x) := show x < 6 + 0 * np by omega
theorem gv_0_12 {np x : Nat} (hx : x < 32) : gv np (0, 12, x) := show x < 32 + 0 * np by omega
theorem gv_0_13 {np x : Nat} (hx : x < 32) : gv np (0, 13, x) := show x < 32 + 0 * np by omega
theorem gv_0_14 {np x : Nat} (hx : x < 32) : gv np (0, 14, x) := show x < 32 + 0 * np by omega
theorem gv_0_15 {np x : Nat} (hx : x < 32) : gv np (0, 15, x) := show x < 32 + 0 * np by omega
theorem gv_0_16 {np x : Nat} (hx : x < 6) : gv np (0, 16, x) := show x < 6 + 0 * np by omega
theorem gv_1_0 {np p : Nat} (hp : p < np) : gv np (1, 0, p) := show p < 0 + 1 * np by omega
theorem gv_1_1 {np p : Nat} (hp : p < np) : gv np (1, 1, p) := show p < 0 + 1 * np by omega
theorem gv_1_3 {np x : Nat} (hx : x < 32) : gv np (1, 3, x) := show x < 32 + 0 * np by omega
theorem gv_1_4 {np d i : Nat} (hd : d < 32) (hi : i < 5) : gv np (1, 4, 5 * d + i) := show 5 * d + i < 160 + 0 * np by omega
theorem gi_1_4 (d : Nat) {i : Nat} (hi : i < 5) : gi (1, 4, 5 * d + i) = (38 + d, i) := by
  show (38 + 1 * ((5 * d + i) / 5), 0 + (5 * d + i) % 5) = _
  exact Prod.ext (show 38 + 1 * ((5 * d + i) / 5) = 38 + d by omega) (show 0 + (5 * d + i) % 5 = i by omega)
theorem gv_1_5 {np x : Nat} (hx : x < 32) : gv np (1, 5, x) := show x < 32 + 0 * np by omega
theorem gv_2_1 {np x : Nat} (hx : x < 32) : gv np (2, 1, x) := show x < 32 + 0 * np by omega
theorem gv_2_2 {np x : Nat} (hx : x < 32) : gv np (2, 2, x) := show x < 32 + 0 * np by omega
theorem gv_2_3 {np x : Nat} (hx : x < 32) : gv np (2, 3, x) := show x < 32 + 0 * np by omega
theorem gv_2_4 {np x : Nat} (hx : x < 256) : gv np (2, 4, x) := show x < 256 + 0 * np by omega
theorem gv_2_5 {np x : Nat} (hx : x < 32) : gv np (2, 5, x) := show x < 32 + 0 * np by omega
theorem gv_2_6 {np x : Nat} (hx : x < 160) : gv np (2, 6, x) := show x < 160 + 0 * np by omega
theorem gv_2_7 {np x : Nat} (hx : x < 32) : gv np (2, 7, x) := show x < 32 + 0 * np by omega
theorem gv_2_8 {np x : Nat} (hx : x < 24) : gv np (2, 8, x) := show x < 24 + 0 * np by omega
theorem gv_2_9 {np x : Nat} (hx : x < 24) : gv np (2, 9, x) := show x < 24 + 0 * np by omega
theorem gv_2_10 {np x : Nat} (hx : x < 6) : gv np (2, 10, x) := show x < 6 + 0 * np by omega
theorem gv_2_11 {np x : Nat} (hx : x < 6) : gv np (2, 11, x) := show x < 6 + 0 * np by omega
theorem gv_2_12 {np x : Nat} (hx : x < 32) : gv np (2, 12, x) := show x < 32 + 0 * np by omega
theorem gv_2_13 {np x : Nat} (hx : x < 32) : gv np (2, 13, x) := show x < 32 + 0 * np by omega
theorem gv_2_14 {np x : Nat} (hx : x < 32) : gv np (2, 14, x) := show x < 32 + 0 * np by omega
theorem gv_2_15 {np x : Nat} (hx : x < 32) : gv np (2, 15, x) := show x < 32 + 0 * np by omega
theorem gv_2_16 {np x : Nat} (hx : x < 6) : gv np (2, 16, x) := show x < 6 + 0 * np by omega
theorem gv_3_0 {np x : Nat} (hx : x < 160) : gv np (3, 0, x) := show x < 160 + 0 * np by omega
end
section
/-! Rows over the world: reading and writing fields and arrays by cell numbers. -/
section GRW
variable {p : Program} {l : Launch} {e : Env} {R : Room} {s : State} {m : MethodId} {args : Array Value} {below : List Frame} {meth : Method} {c : Code} {H : Heap} {locs : List Loc} {cells slots : Nat} {Q : State → Prop}
variable {cc : ByteArray} {pc : Nat} {ls : Array Slot} {rest : List Value} {g : gG} {A : Nat → Prop} {ad : Nat → Nat} {np : Nat} {u v : gS} {H0 : Heap} {Ts : List Cond} {own ref C host : String} {T : u_T} {N ci index k j : Nat} {fs : (Nat → Int32) → List Value} {q : Nat × Nat × Nat} {z : Int32}
theorem gy_gi (hexec : p.tables.exec = Jvm.exec) (hb : c.code = cc) (hts : ∀ w ∈ Ts, w.before args s = true) (hin : ∀ w ∈ u_ws C T N, w ∈ Ts) (hown : s.vm.findClass own = some m.cls) (hK : va_K g.1 gcl (gty g) s) (hc : gcl[ci]? = some (C, T, N)) (hj : j < N) (hlink : (Cond.fieldLink own index ref (T j).2.1 (T j).2.2.1).before args s = true) (hsame : ∀ x, s.fieldFound? (T j).1 (T j).2.1 (T j).2.2.1 = some x → s.fieldFound? ref (T j).2.1 (T j).2.2.1 = some x) (hfj : ∀ r, (fs r)[j]? = some (.int (r j)))
    (hW : gW g A ad np u v H) (hk : k < 94 + 5 * np) (hce : ∀ σ τ, ge g ad np σ τ k = .inr (ci, fs (σ k))) (hq : gv np q) (hg : gi q = (k, j)) (hz : gr u v q = z) (hdg : decode cc pc = .ok (.getfield index, 3))
    (kk : W p l e R s m args below meth c H locs cells slots Q (F0 m (pc + 3) ls (.int z :: rest))) : W p l e R s m args below meth c H locs cells slots Q (F0 m pc ls (.ref (ad k) :: rest)) := by
  obtain ⟨σ, τ, hP, hD, hr, hl1, hl2⟩ := hW
  have hz2 : σ k j = z := by rw [← hz, ← hr q hq, hg]
  exact va_get (v := .int z) hexec hb hts hin hown hK hP k ((gw_at hk).trans (by rw [hce])) hc j hj hlink hsame (by rw [hfj, hz2]) hdg kk
theorem gy_giN (hexec : p.tables.exec = Jvm.exec) (hb : c.code = cc) (hts : ∀ w ∈ Ts, w.before args s = true) (hin : ∀ w ∈ u_ws C T N, w ∈ Ts) (hown : s.vm.findClass own = some m.cls) (hK : va_K g.1 gcl (gty g) s) (hc : gcl[ci]? = some (C, T, N)) (hj : j < N) (hlink : (Cond.fieldLinkNest own index ref (T j).2.1 (T j).2.2.1 host).before args s = true) (hsame : ∀ x, s.fieldFound? (T j).1 (T j).2.1 (T j).2.2.1 = some x → s.fieldFound? ref (T j).2.1 (T j).2.2.1 = some x) (hfj : ∀ r, (fs r)[j]? = some (.int (r j)))
    (hW : gW g A ad np u v H) (hk : k < 94 + 5 * np) (hce : ∀ σ τ, ge g ad np σ τ k = .inr (ci, fs (σ k))) (hq : gv np q) (hg : gi q = (k, j)) (hz : gr u v q = z) (hdg : decode cc pc = .ok (.getfield index, 3))
    (kk : W p l e R s m args below meth c H locs cells slots Q (F0 m (pc + 3) ls (.int z :: rest))) : W p l e R s m args below meth c H locs cells slots Q (F0 m pc ls (.ref (ad k) :: rest)) := by
  obtain ⟨σ, τ, hP, hD, hr, hl1, hl2⟩ := hW
  have hz2 : σ k j = z := by rw [← hz, ← hr q hq, hg]
  exact va_getN (v := .int z) hexec hb hts hin hown hK hP k ((gw_at hk).trans (by rw [hce])) hc j hj hlink hsame (by rw [hfj, hz2]) hdg kk
/-- a field that holds a cell of the picture (or an enum's constant, by its place) -/
theorem gy_gr {t : Nat} (hexec : p.tables.exec = Jvm.exec) (hb : c.code = cc) (hts : ∀ w ∈ Ts, w.before args s = true) (hin : ∀ w ∈ u_ws C T N, w ∈ Ts) (hown : s.vm.findClass own = some m.cls) (hK : va_K g.1 gcl (gty g) s) (hc : gcl[ci]? = some (C, T, N)) (hj : j < N) (hlink : (Cond.fieldLink own index ref (T j).2.1 (T j).2.2.1).before args s = true) (hsame : ∀ x, s.fieldFound? (T j).1 (T j).2.1 (T j).2.2.1 = some x → s.fieldFound? ref (T j).2.1 (T j).2.2.1 = some x) (hfj : ∀ r, (fs r)[j]? = some (.ref (ad t)))
    (hW : gW g A ad np u v H) (hk : k < 94 + 5 * np) (hce : ∀ σ τ, ge g ad np σ τ k = .inr (ci, fs (σ k))) (hdg : decode cc pc = .ok (.getfield index, 3))
    (kk : W p l e R s m args below meth c H locs cells slots Q (F0 m (pc + 3) ls (.ref (ad t) :: rest))) : W p l e R s m args below meth c H locs cells slots Q (F0 m pc ls (.ref (ad k) :: rest)) := by
  obtain ⟨σ, τ, hP, hD, hr, hl1, hl2⟩ := hW
  exact va_get (v := .ref (ad t)) hexec hb hts hin hown hK hP k ((gw_at hk).trans (by rw [hce])) hc j hj hlink hsame (hfj _) hdg kk
theorem gy_grN {t : Nat} (hexec : p.tables.exec = Jvm.exec) (hb : c.code = cc) (hts : ∀ w ∈ Ts, w.before args s = true) (hin : ∀ w ∈ u_ws C T N, w ∈ Ts) (hown : s.vm.findClass own = some m.cls) (hK : va_K g.1 gcl (gty g) s) (hc : gcl[ci]? = some (C, T, N)) (hj : j < N) (hlink : (Cond.fieldLinkNest own index ref (T j).2.1 (T j).2.2.1 host).before args s = true) (hsame : ∀ x, s.fieldFound? (T j).1 (T j).2.1 (T j).2.2.1 = some x → s.fieldFound? ref (T j).2.1 (T j).2.2.1 = some x) (hfj : ∀ r, (fs r)[j]? = some (.ref (ad t)))
    (hW : gW g A ad np u v H) (hk : k < 94 + 5 * np) (hce : ∀ σ τ, ge g ad np σ τ k = .inr (ci, fs (σ k))) (hdg : decode cc pc = .ok (.getfield index, 3))
    (kk : W p l e R s m args below meth c H locs cells slots Q (F0 m (pc + 3) ls (.ref (ad t) :: rest))) : W p l e R s m args below meth c H locs cells slots Q (F0 m pc ls (.ref (ad k) :: rest)) := by
  obtain ⟨σ, τ, hP, hD, hr, hl1, hl2⟩ := hW
  exact va_getN (v := .ref (ad t)) hexec hb hts hin hown hK hP k ((gw_at hk).trans (by rw [hce])) hc j hj hlink hsame (hfj _) hdg kk
/-- a page's reply -/
theorem gy_geN (hexec : p.tables.exec = Jvm.exec) (hb : c.code = cc) (hts : ∀ w ∈ Ts, w.before args s = true) (hin : ∀ w ∈ u_ws C T N, w ∈ Ts) (hown : s.vm.findClass own = some m.cls) (hK : va_K g.1 gcl (gty g) s) (hc : gcl[ci]? = some (C, T, N)) (hj : j < N) (hlink : (Cond.fieldLinkNest own index ref (T j).2.1 (T j).2.2.1 host).before args s = true) (hsame : ∀ x, s.fieldFound? (T j).1 (T j).2.1 (T j).2.2.1 = some x → s.fieldFound? ref (T j).2.1 (T j).2.2.1 = some x) (hfj : ∀ r, (fs r)[j]? = some (.ref (g.2.2 (r j).toNatClampNeg)))
    (hW : gW g A ad np u v H) (hk : k < 94 + 5 * np) (hce : ∀ σ τ, ge g ad np σ τ k = .inr (ci, fs (σ k))) (hq : gv np q) (hg : gi q = (k, j)) (hz : gr u v q = z) (hdg : decode cc pc = .ok (.getfield index, 3))
    (kk : W p l e R s m args below meth c H locs cells slots Q (F0 m (pc + 3) ls (.ref (g.2.2 z.toNatClampNeg) :: rest))) : W p l e R s m args below meth c H locs cells slots Q (F0 m pc ls (.ref (ad k) :: rest)) := by
  obtain ⟨σ, τ, hP, hD, hr, hl1, hl2⟩ := hW
  have hz2 : σ k j = z := by rw [← hz, ← hr q hq, hg]
  exact va_getN (v := .ref (g.2.2 z.toNatClampNeg)) hexec hb hts hin hown hK hP k ((gw_at hk).trans (by rw [hce])) hc j hj hlink hsame (by rw [hfj, hz2]) hdg kk
theorem gy_pi {ty : FieldType} (hexec : p.tables.exec = Jvm.exec) (hb : c.code = cc) (hts : ∀ w ∈ Ts, w.before args s = true) (hin : ∀ w ∈ u_ws C T N, w ∈ Ts) (ty0 : Nat → FieldType) (hty : ∀ k, k < N → parseFieldDescriptor (T k).2.2.1 = some (ty0 k)) (hnm : ∀ a, a < N → ∀ b, b < N → a ≠ b → (T a).2.1 ≠ (T b).2.1) (hown : s.vm.findClass own = some m.cls) (hK : va_K g.1 gcl (gty g) s) (hc : gcl[ci]? = some (C, T, N)) (hj : j < N) (hlink : (Cond.fieldLink own index ref (T j).2.1 (T j).2.2.1).before args s = true) (hsame : ∀ x, s.fieldFound? (T j).1 (T j).2.1 (T j).2.2.1 = some x → s.fieldFound? ref (T j).2.1 (T j).2.2.1 = some x) (hfin : (T j).2.2.2 = false) (hd : parseFieldDescriptor (T j).2.2.1 = some ty) (hl : ∀ r, j < (fs r).length) (hfs : ∀ r x, fs (upd r j x) = (fs r).set j (.int x))
    (hW : gW g A ad np u v H) (hS : va_S A H0 H locs) (hk : k < 94 + 5 * np) (hce : ∀ σ τ, ge g ad np σ τ k = .inr (ci, fs (σ k))) (hq : gv np q) (hg : gi q = (k, j)) (hn : narrow ty (.int z) = .int z) (hfit : fits ty (.int z) = true) (hdg : decode cc pc = .ok (.putfield index, 3))
    (kk : ∀ (H1 : Heap) (locs1 : List Loc), gW g A ad np (gx u v q z).1 (gx u v q z).2 H1 → va_S A H0 H1 locs1 → W p l e R s m args below meth c H1 locs1 cells slots Q (F0 m (pc + 3) ls rest)) : W p l e R s m args below meth c H locs cells slots Q (F0 m pc ls (.int z :: .ref (ad k) :: rest)) := by
  obtain ⟨σ, τ, hP, hD, hr, hl1, hl2⟩ := hW
  refine va_put (v := .int z) (fs := fs (σ k)) hexec hb hts hin ty0 hty hnm hown hK hP hD hS k ((gw_at hk).trans (by rw [hce])) hc j hj hlink hsame hfin hd hn hfit (hl _) hdg (fun H1 locs1 hP1 hD1 hS1 => ?_)
  exact kk H1 locs1 (gW_wr hq hg hr hl1 hl2 (by rw [hce, gu_self, hfs]) hP1 hD1) hS1
theorem gy_piN {ty : FieldType} (hexec : p.tables.exec = Jvm.exec) (hb : c.code = cc) (hts : ∀ w ∈ Ts, w.before args s = true) (hin : ∀ w ∈ u_ws C T N, w ∈ Ts) (ty0 : Nat → FieldType) (hty : ∀ k, k < N → parseFieldDescriptor (T k).2.2.1 = some (ty0 k)) (hnm : ∀ a, a < N → ∀ b, b < N → a ≠ b → (T a).2.1 ≠ (T b).2.1) (hown : s.vm.findClass own = some m.cls) (hK : va_K g.1 gcl (gty g) s) (hc : gcl[ci]? = some (C, T, N)) (hj : j < N) (hlink : (Cond.fieldLinkNest own index ref (T j).2.1 (T j).2.2.1 host).before args s = true) (hsame : ∀ x, s.fieldFound? (T j).1 (T j).2.1 (T j).2.2.1 = some x → s.fieldFound? ref (T j).2.1 (T j).2.2.1 = some x) (hfin : (T j).2.2.2 = false) (hd : parseFieldDescriptor (T j).2.2.1 = some ty) (hl : ∀ r, j < (fs r).length) (hfs : ∀ r x, fs (upd r j x) = (fs r).set j (.int x))
    (hW : gW g A ad np u v H) (hS : va_S A H0 H locs) (hk : k < 94 + 5 * np) (hce : ∀ σ τ, ge g ad np σ τ k = .inr (ci, fs (σ k))) (hq : gv np q) (hg : gi q = (k, j)) (hn : narrow ty (.int z) = .int z) (hfit : fits ty (.int z) = true) (hdg : decode cc pc = .ok (.putfield index, 3))
    (kk : ∀ (H1 : Heap) (locs1 : List Loc), gW g A ad np (gx u v q z).1 (gx u v q z).2 H1 → va_S A H0 H1 locs1 → W p l e R s m args below meth c H1 locs1 cells slots Q (F0 m (pc + 3) ls rest)) : W p l e R s m args below meth c H locs cells slots Q (F0 m pc ls (.int z :: .ref (ad k) :: rest)) := by
  obtain ⟨σ, τ, hP, hD, hr, hl1, hl2⟩ := hW
  refine va_putN (v := .int z) (fs := fs (σ k)) hexec hb hts hin ty0 hty hnm hown hK hP hD hS k ((gw_at hk).trans (by rw [hce])) hc j hj hlink hsame hfin hd hn hfit (hl _) hdg (fun H1 locs1 hP1 hD1 hS1 => ?_)
  exact kk H1 locs1 (gW_wr hq hg hr hl1 hl2 (by rw [hce, gu_self, hfs]) hP1 hD1) hS1
/-- a page's reply is set -/
theorem gy_peN {ty : FieldType} (hexec : p.tables.exec = Jvm.exec) (hb : c.code = cc) (hts : ∀ w ∈ Ts, w.before args s = true) (hin : ∀ w ∈ u_ws C T N, w ∈ Ts) (ty0 : Nat → FieldType) (hty : ∀ k, k < N → parseFieldDescriptor (T k).2.2.1 = some (ty0 k)) (hnm : ∀ a, a < N → ∀ b, b < N → a ≠ b → (T a).2.1 ≠ (T b).2.1) (hown : s.vm.findClass own = some m.cls) (hK : va_K g.1 gcl (gty g) s) (hc : gcl[ci]? = some (C, T, N)) (hj : j < N) (hlink : (Cond.fieldLinkNest own index ref (T j).2.1 (T j).2.2.1 host).before args s = true) (hsame : ∀ x, s.fieldFound? (T j).1 (T j).2.1 (T j).2.2.1 = some x → s.fieldFound? ref (T j).2.1 (T j).2.2.1 = some x) (hfin : (T j).2.2.2 = false) (hd : parseFieldDescriptor (T j).2.2.1 = some ty) (hl : ∀ r, j < (fs r).length) (hfs : ∀ r x, fs (upd r j x) = (fs r).set j (.ref (g.2.2 x.toNatClampNeg)))
    (hW : gW g A ad np u v H) (hS : va_S A H0 H locs) (hk : k < 94 + 5 * np) (hce : ∀ σ τ, ge g ad np σ τ k = .inr (ci, fs (σ k))) (hq : gv np q) (hg : gi q = (k, j)) {w : Nat} (hw : z.toNatClampNeg = w) (hn : narrow ty (.ref (g.2.2 w)) = .ref (g.2.2 w)) (hfit : fits ty (.ref (g.2.2 w)) = true) (hdg : decode cc pc = .ok (.putfield index, 3))
    (kk : ∀ (H1 : Heap) (locs1 : List Loc), gW g A ad np (gx u v q z).1 (gx u v q z).2 H1 → va_S A H0 H1 locs1 → W p l e R s m args below meth c H1 locs1 cells slots Q (F0 m (pc + 3) ls rest)) : W p l e R s m args below meth c H locs cells slots Q (F0 m pc ls (.ref (g.2.2 w) :: .ref (ad k) :: rest)) := by
  obtain ⟨σ, τ, hP, hD, hr, hl1, hl2⟩ := hW
  subst hw
  refine va_putN (v := .ref (g.2.2 z.toNatClampNeg)) (fs := fs (σ k)) hexec hb hts hin ty0 hty hnm hown hK hP hD hS k ((gw_at hk).trans (by rw [hce])) hc j hj hlink hsame hfin hd hn hfit (hl _) hdg (fun H1 locs1 hP1 hD1 hS1 => ?_)
  exact kk H1 locs1 (gW_wr hq hg hr hl1 hl2 (by rw [hce, gu_self, hfs]) hP1 hD1) hS1
-- arrays
theorem gy_ia (hexec : p.tables.exec = Jvm.exec) (hb : c.code = cc) (hK : va_K g.1 gcl (gty g) s) (hW : gW g A ad np u v H) (hk : k < 94 + 5 * np) (h8 : gk k = 8) {i : Int32} (hin : vp_in i (gn k)) (hq : gv np q) (hg : gi q = (k, i.toNatClampNeg)) (hz : gr u v q = z) (hdg : decode cc pc = .ok (.iaload, 1))
    (kk : W p l e R s m args below meth c H locs cells slots Q (F0 m (pc + 1) ls (.int z :: rest))) : W p l e R s m args below meth c H locs cells slots Q (F0 m pc ls (.int i :: .ref (ad k) :: rest)) := by
  obtain ⟨σ, τ, hP, hD, hr, hl1, hl2⟩ := hW
  have hz2 : σ k i.toNatClampNeg = z := by rw [← hz, ← hr q hq, hg]
  refine va_iald hexec hb hK hP k 0 ((gw_at hk).trans (by rw [ge_8 h8])) rfl hin hdg ?_
  rw [hz2]
  exact kk
theorem gy_is (hexec : p.tables.exec = Jvm.exec) (hb : c.code = cc) (hK : va_K g.1 gcl (gty g) s) (hW : gW g A ad np u v H) (hS : va_S A H0 H locs) (hk : k < 94 + 5 * np) (h8 : gk k = 8) {i : Int32} (hin : vp_in i (gn k)) (hq : gv np q) (hg : gi q = (k, i.toNatClampNeg)) (hdg : decode cc pc = .ok (.iastore, 1))
    (kk : ∀ (H1 : Heap) (locs1 : List Loc), gW g A ad np (gx u v q z).1 (gx u v q z).2 H1 → va_S A H0 H1 locs1 → W p l e R s m args below meth c H1 locs1 cells slots Q (F0 m (pc + 1) ls rest)) : W p l e R s m args below meth c H locs cells slots Q (F0 m pc ls (.int z :: .int i :: .ref (ad k) :: rest)) := by
  obtain ⟨σ, τ, hP, hD, hr, hl1, hl2⟩ := hW
  refine va_iast hexec hb hK hP hD hS k 0 ((gw_at hk).trans (by rw [ge_8 h8])) rfl hin hdg (fun H1 locs1 hP1 hD1 hS1 => ?_)
  exact kk H1 locs1 (gW_wr hq hg hr hl1 hl2 (by rw [ge_8 h8, gu_self]) hP1 hD1) hS1
theorem gy_za (hexec : p.tables.exec = Jvm.exec) (hb : c.code = cc) (hK : va_K g.1 gcl (gty g) s) (hW : gW g A ad np u v H) (hk : k < 94 + 5 * np) (h8 : gk k = 9) {i : Int32} (hin : vp_in i (gn k)) (hq : gv np q) (hg : gi q = (k, i.toNatClampNeg)) (hz : gr u v q = z) (hdg : decode cc pc = .ok (.baload, 1))
    (kk : W p l e R s m args below meth c H locs cells slots Q (F0 m (pc + 1) ls (.int z :: rest))) : W p l e R s m args below meth c H locs cells slots Q (F0 m pc ls (.int i :: .ref (ad k) :: rest)) := by
  obtain ⟨σ, τ, hP, hD, hr, hl1, hl2⟩ := hW
  have hz2 : σ k i.toNatClampNeg = z := by rw [← hz, ← hr q hq, hg]
  refine va_zald hexec hb hK hP k 1 ((gw_at hk).trans (by rw [ge_9 h8])) rfl hin hdg ?_
  rw [hz2]
  exact kk
theorem gy_zs (hexec : p.tables.exec = Jvm.exec) (hb : c.code = cc) (hK : va_K g.1 gcl (gty g) s) (hW : gW g A ad np u v H) (hS : va_S A H0 H locs) (hk : k < 94 + 5 * np) (h8 : gk k = 9) {i : Int32} (hin : vp_in i (gn k)) (hnz : vp_nar .boolean z = z) (hq : gv np q) (hg : gi q = (k, i.toNatClampNeg)) (hdg : decode cc pc = .ok (.bastore, 1))
    (kk : ∀ (H1 : Heap) (locs1 : List Loc), gW g A ad np (gx u v q z).1 (gx u v q z).2 H1 → va_S A H0 H1 locs1 → W p l e R s m args below meth c H1 locs1 cells slots Q (F0 m (pc + 1) ls rest)) : W p l e R s m args below meth c H locs cells slots Q (F0 m pc ls (.int z :: .int i :: .ref (ad k) :: rest)) := by
  obtain ⟨σ, τ, hP, hD, hr, hl1, hl2⟩ := hW
  refine va_zast hexec hb hK hP hD hS k 1 ((gw_at hk).trans (by rw [ge_9 h8])) rfl hin hdg (fun H1 locs1 hP1 hD1 hS1 => ?_)
  rw [hnz] at hP1 hD1
  exact kk H1 locs1 (gW_wr hq hg hr hl1 hl2 (by rw [ge_9 h8, gu_self]) hP1 hD1) hS1
theorem gy_la {w : Int64} (hexec : p.tables.exec = Jvm.exec) (hb : c.code = cc) (hK : va_K g.1 gcl (gty g) s) (hW : gW g A ad np u v H) (hk : k < 3) {i : Int32} (hin : vp_in i 32) (hz : u.2.2 k i.toNatClampNeg = w) (hdg : decode cc pc = .ok (.laload, 1))
    (kk : W p l e R s m args below meth c H locs cells slots Q (F0 m (pc + 1) ls (.long w :: rest))) : W p l e R s m args below meth c H locs cells slots Q (F0 m pc ls (.int i :: .ref (ad (71 + k)) :: rest)) := by
  obtain ⟨σ, τ, hP, hD, hr, hl1, hl2⟩ := hW
  have hk9 : gk (71 + k) = 10 ∧ gn (71 + k) = 32 := (show ∀ k : Fin 3, gk (71 + k.val) = 10 ∧ gn (71 + k.val) = 32 by decide) ⟨k, hk⟩
  have hz2 : τ (71 + k) i.toNatClampNeg = w := by rw [← hz, hl1 k hk]
  refine va_lald hexec hb hK hP (71 + k) 2 ((gw_at (by omega)).trans (by rw [ge_10 hk9.1])) rfl (by rw [hk9.2]; exact hin) hdg ?_
  rw [hz2]
  exact kk
theorem gy_lsC {w : Int64} (hexec : p.tables.exec = Jvm.exec) (hb : c.code = cc) (hK : va_K g.1 gcl (gty g) s) (hW : gW g A ad np u v H) (hS : va_S A H0 H locs) (hk : k < 3) {i : Int32} (hin : vp_in i 32) (hdg : decode cc pc = .ok (.lastore, 1))
    (kk : ∀ (H1 : Heap) (locs1 : List Loc), gW g A ad np (u.1, u.2.1, guL u.2.2 k i.toNatClampNeg w) v H1 → va_S A H0 H1 locs1 → W p l e R s m args below meth c H1 locs1 cells slots Q (F0 m (pc + 1) ls rest)) : W p l e R s m args below meth c H locs cells slots Q (F0 m pc ls (.long w :: .int i :: .ref (ad (71 + k)) :: rest)) := by
  obtain ⟨σ, τ, hP, hD, hr, hl1, hl2⟩ := hW
  have hk9 : gk (71 + k) = 10 ∧ gn (71 + k) = 32 := (show ∀ k : Fin 3, gk (71 + k.val) = 10 ∧ gn (71 + k.val) = 32 by decide) ⟨k, hk⟩
  refine va_last hexec hb hK hP hD hS (71 + k) 2 ((gw_at (by omega)).trans (by rw [ge_10 hk9.1])) rfl (by rw [hk9.2]; exact hin) hdg (fun H1 locs1 hP1 hD1 hS1 => ?_)
  exact kk H1 locs1 (gW_wrL hk hr hl1 hl2 (by rw [ge_10 hk9.1, guL_self]) hP1 hD1) hS1
theorem gy_laM {w : Int64} (hexec : p.tables.exec = Jvm.exec) (hb : c.code = cc) (hK : va_K g.1 gcl (gty g) s) (hW : gW g A ad np u v H) (hk : k < 2) {i : Int32} (hin : vp_in i 32) (hz : v.2.2 k i.toNatClampNeg = w) (hdg : decode cc pc = .ok (.laload, 1))
    (kk : W p l e R s m args below meth c H locs cells slots Q (F0 m (pc + 1) ls (.long w :: rest))) : W p l e R s m args below meth c H locs cells slots Q (F0 m pc ls (.int i :: .ref (ad (92 + k)) :: rest)) := by
  obtain ⟨σ, τ, hP, hD, hr, hl1, hl2⟩ := hW
  have hk9 : gk (92 + k) = 10 ∧ gn (92 + k) = 32 := (show ∀ k : Fin 2, gk (92 + k.val) = 10 ∧ gn (92 + k.val) = 32 by decide) ⟨k, hk⟩
  have hz2 : τ (92 + k) i.toNatClampNeg = w := by rw [← hz, hl2 k hk]
  refine va_lald hexec hb hK hP (92 + k) 2 ((gw_at (by omega)).trans (by rw [ge_10 hk9.1])) rfl (by rw [hk9.2]; exact hin) hdg ?_
  rw [hz2]
  exact kk
theorem gy_lsM {w : Int64} (hexec : p.tables.exec = Jvm.exec) (hb : c.code = cc) (hK : va_K g.1 gcl (gty g) s) (hW : gW g A ad np u v H) (hS : va_S A H0 H locs) (hk : k < 2) {i : Int32} (hin : vp_in i 32) (hdg : decode cc pc = .ok (.lastore, 1))
    (kk : ∀ (H1 : Heap) (locs1 : List Loc), gW g A ad np u (v.1, v.2.1, guL v.2.2 k i.toNatClampNeg w) H1 → va_S A H0 H1 locs1 → W p l e R s m args below meth c H1 locs1 cells slots Q (F0 m (pc + 1) ls rest)) : W p l e R s m args below meth c H locs cells slots Q (F0 m pc ls (.long w :: .int i :: .ref (ad (92 + k)) :: rest)) := by
  obtain ⟨σ, τ, hP, hD, hr, hl1, hl2⟩ := hW
  have hk9 : gk (92 + k) = 10 ∧ gn (92 + k) = 32 := (show ∀ k : Fin 2, gk (92 + k.val) = 10 ∧ gn (92 + k.val) = 32 by decide) ⟨k, hk⟩
  refine va_last hexec hb hK hP hD hS (92 + k) 2 ((gw_at (by omega)).trans (by rw [ge_10 hk9.1])) rfl (by rw [hk9.2]; exact hin) hdg (fun H1 locs1 hP1 hD1 hS1 => ?_)
  exact kk H1 locs1 (gW_wrM hk hr hl1 hl2 (by rw [ge_10 hk9.1, guL_self]) hP1 hD1) hS1
theorem gy_aP (hexec : p.tables.exec = Jvm.exec) (hb : c.code = cc) (hK : va_K g.1 gcl (gty g) s) (hW : gW g A ad np u v H) {i : Nat} (hi : i < np) (hnp : np ≤ 32) {x : Int32} (hx : x = nI i) (hdg : decode cc pc = .ok (.aaload, 1))
    (kk : W p l e R s m args below meth c H locs cells slots Q (F0 m (pc + 1) ls (.ref (ad (gp i)) :: rest))) : W p l e R s m args below meth c H locs cells slots Q (F0 m pc ls (.int x :: .ref (ad 2) :: rest)) := by
  obtain ⟨σ, τ, hP, hD, hr, hl1, hl2⟩ := hW
  subst hx
  refine va_aldq hexec hb hK hP 2 3 (gw_at (by omega)) rfl (vp_in_nI (by omega) (by omega)) hdg ?_
  rw [nI_clamp (by omega), if_pos hi]
  exact kk
theorem gy_aH (hexec : p.tables.exec = Jvm.exec) (hb : c.code = cc) (hK : va_K g.1 gcl (gty g) s) (hW : gW g A ad np u v H) {i : Nat} (hi : i < 6) {x : Int32} (hx : x = nI i) (hdg : decode cc pc = .ok (.aaload, 1))
    (kk : W p l e R s m args below meth c H locs cells slots Q (F0 m (pc + 1) ls (.ref (ad (4 + 3 * i)) :: rest))) : W p l e R s m args below meth c H locs cells slots Q (F0 m pc ls (.int x :: .ref (ad 3) :: rest)) := by
  obtain ⟨σ, τ, hP, hD, hr, hl1, hl2⟩ := hW
  subst hx
  refine va_aldq hexec hb hK hP 3 4 (gw_at (by omega)) rfl (vp_in_nI hi (by omega)) hdg ?_
  rw [nI_clamp (by omega)]
  exact kk
theorem gy_aldA {D : va_G} {cl : List vw_C} {tys : List (ClassId × FieldType)} {ws : va_W} {a : Nat} (hexec : p.tables.exec = Jvm.exec) (hb : c.code = cc) (hK : va_K D cl tys s) (hP : va_P D cl ws H) (q0 t0 : Nat) {cA : ClassId} {t : FieldType} {n : Nat} {f : Nat → Option Nat} (ha : ws[q0]? = some (a, .inl (cA, n, .inr (.inr (.inr (.inr f)))))) (ht : tys[t0]? = some (cA, .array t)) {i : Int32} (hin : vp_in i n) (hdg : decode cc pc = .ok (.aaload, 1))
    (kk : W p l e R s m args below meth c H locs cells slots Q (F0 m (pc + 1) ls (va_rf (f i.toNatClampNeg) :: rest))) : W p l e R s m args below meth c H locs cells slots Q (F0 m pc ls (.int i :: .ref a :: rest)) := by
  have hlt : i.toNatClampNeg < n := Nat.not_le.mp fun q => hin (Or.inr q)
  exact W.aald (v := va_rf (f i.toNatClampNeg)) (ty := .array t) hexec hb (hP q0 _ ha) ((hK.2 t0 _ ht).1 n (fun j => va_rf (f j))) rfl (fun q => by cases q) (by show ¬ (i < 0 ∨ (arrV _ _ _).slots.size ≤ _); rw [arrV_size]; exact hin) (by show (arrV _ _ _).slots[_]? = _; rw [arrV_read _ _ hlt]) rfl rfl hdg kk
theorem gy_aL (hexec : p.tables.exec = Jvm.exec) (hb : c.code = cc) (hK : va_K g.1 gcl (gty g) s) (hW : gW g A ad np u v H) {i : Nat} (hi : i < 32) {x : Int32} (hx : x = nI i) (hdg : decode cc pc = .ok (.aaload, 1))
    (kk : W p l e R s m args below meth c H locs cells slots Q (F0 m (pc + 1) ls (.ref (ad (38 + i)) :: rest))) : W p l e R s m args below meth c H locs cells slots Q (F0 m pc ls (.int x :: .ref (ad 37) :: rest)) := by
  obtain ⟨σ, τ, hP, hD, hr, hl1, hl2⟩ := hW
  subst hx
  refine gy_aldA (t := .int) hexec hb hK hP 37 5 (gw_at (by omega)) rfl (vp_in_nI hi (by omega)) hdg ?_
  rw [nI_clamp (by omega)]
  exact kk
theorem gy_al (hexec : p.tables.exec = Jvm.exec) (hb : c.code = cc) (hK : va_K g.1 gcl (gty g) s) (hW : gW g A ad np u v H) (hk : k < 94 + 5 * np) (h8 : gk k = 8) {n : Nat} (hn : gn k = n) (hdg : decode cc pc = .ok (.arraylength, 1))
    (kk : W p l e R s m args below meth c H locs cells slots Q (F0 m (pc + 1) ls (.int (nI n) :: rest))) : W p l e R s m args below meth c H locs cells slots Q (F0 m pc ls (.ref (ad k) :: rest)) := by
  obtain ⟨σ, τ, hP, hD, hr, hl1, hl2⟩ := hW
  exact va_alen hexec hb hK hP k 0 ((gw_at hk).trans (by rw [ge_8 h8])) (ty := .int) rfl (by rw [hn]; rfl) hdg kk
theorem gW_recv (hK : va_K g.1 gcl (gty g) s) (hW : gW g A ad np u v H) (hk : k < 94 + 5 * np) (hce : ∀ σ τ, ge g ad np σ τ k = .inr (ci, fs (σ k))) {r : vw_C} (hc : gcl[ci]? = some r) : ∃ cell : Cell, H[ad k]? = some cell ∧ cell.vm.isStatics = false ∧ s.vm.findClass r.1 = some cell.cls := by
  obtain ⟨σ, τ, hP, hD, hr, hl1, hl2⟩ := hW
  exact va_recv hK hP hc ((gw_at hk).trans (by rw [hce]))
end GRW
end
section
/-! Contracts over the world, and calls by them. -/
def rmD (d c s : Nat) : Room := { frames := d, cells := c, slots := s, locals := 40 * d }
def gWG : List Cond := lw_tbl.filter goodWord
theorem gWG_in {w : Cond} (h : w ∈ lw_tbl) (hg : goodWord w = true) : w ∈ gWG := List.mem_filter.mpr ⟨h, hg⟩
theorem gWG_good {x : Cond} {ws : List Cond} (h : ∀ w ∈ ws, w ∈ gWG) : GoodIn (x :: gWG) ws := fun w hw => ⟨List.mem_cons_of_mem _ (h w hw), good_of_word (List.mem_filter.mp (h w hw)).2⟩
theorem gWG_good0 {ws : List Cond} (h : ∀ w ∈ ws, w ∈ gWG) : GoodIn gWG ws := fun w hw => ⟨h w hw, good_of_word (List.mem_filter.mp (h w hw)).2⟩
def gNok : Cond → Bool
  | .fieldLinkNest .. => true
  | .methodLinkNest .. => true
  | _ => false
def gN : List Cond := lw_tbl.filter gNok
theorem gN_in {w : Cond} (h : w ∈ lw_tbl) (hg : gNok w = true) : w ∈ gN := List.mem_filter.mpr ⟨h, hg⟩
theorem gN_moved {w : Cond} (h : w ∈ gN) {s U : State} (hW : s.WarmedH U.vm) (hZ : va_Nw w s) : va_Nw w U := by
  have h1 := (List.mem_filter.mp h).2
  cases w <;> first | exact va_Nw.warmF hW hZ | exact va_Nw.warmM hW hZ | (exact absurd h1 (by simp [gNok]))
theorem gN_same {w : Cond} (h : w ∈ gN) {u U : State} (hW : u.vm = U.vm) (hZ : va_Nw w u) : va_Nw w U := by
  have h1 := (List.mem_filter.mp h).2
  cases w <;> first | exact va_Nw.same rfl hW hZ | (exact absurd h1 (by simp [gNok]))
/-- what a method takes as given of the tables, beside the words -/
def gK (g : gG) (A : Nat → Prop) (U : State) : Prop := va_K g.1 gcl (gty g) U ∧ va_En R_Reply gRd ["HERE", "MOVED", "GONE"] [] g.2.2 A U U.heap ∧ (∀ w ∈ gN, va_Nw w U) ∧ va_AO R_Page U ∧ va_AO R_Host U
theorem gK_moved {g : gG} {A : Nat → Prop} {s U : State} {H : Heap} {locs : List Loc} (h : gK g A s) (hS : va_S A s.heap H locs) (hU : U.heap = H) (hW : s.WarmedH U.vm) : gK g A U := by
  obtain ⟨h1, h2, h3, h4, h5⟩ := h
  refine ⟨va_K.moved hW.alike h1, ?_, fun w hw => gN_moved hw hW (h3 w hw), va_AO.moved hW.alike h4, va_AO.moved hW.alike h5⟩
  rw [hU]
  exact va_En.moved hW.alike (h2.kept hS.2.1)
theorem gK_calling {g : gG} {A : Nat → Prop} {U : State} (h : gK g A U) (f : JFrame) (mk : MethodId) (a : Array Value) : gK g A (U.calling f mk a) := by
  obtain ⟨h1, h2, h3, h4, h5⟩ := h
  exact ⟨va_K.moved (u := U) (U := U.calling f mk a) (Vm.Alike.refl U.vm) h1, va_En.moved (u := U) (U := U.calling f mk a) (Vm.Alike.refl U.vm) h2, fun w hw => gN_same (u := U) (U := U.calling f mk a) hw rfl (h3 w hw), va_AO.moved (u := U) (U := U.calling f mk a) (Vm.Alike.refl U.vm) h4, va_AO.moved (u := U) (U := U.calling f mk a) (Vm.Alike.refl U.vm) h5⟩
abbrev gcx (g : gG) (A : Nat → Prop) (p : Program) (s : State) (m : MethodId) (args : Array Value) (c : Code) (cc : ByteArray) (nL : Nat) (own : String) : Prop := CallFix p m c cc nL s args gWG own ∧ gK g A s
def gPc (As : List Value) (g : gG) (A : Nat → Prop) (ad : Nat → Nat) (np : Nat) (u v : gS) : Array Value → State → Prop := va_Pc As (fun U => gW g A ad np u v U.heap ∧ gK g A U)
theorem gPc_blind {As : List Value} {g : gG} {A : Nat → Prop} {ad : Nat → Nat} {np : Nat} {u v : gS} : FrameBlind (gPc As g A ad np u v) := fun a U f mk h => ⟨h.1, h.2.1, gK_calling h.2.2 f mk a⟩
theorem gPc_at {As : List Value} {g : gG} {A : Nat → Prop} {ad : Nat → Nat} {np : Nat} {u v : gS} {s : State} {H : Heap} {locs : List Loc} (hK : gK g A s) (hW : gW g A ad np u v H) (hS : va_S A s.heap H locs) : ∀ U : State, U.heap = H → s.WarmedH U.vm → gPc As g A ad np u v As.toArray U := fun U hU hw => ⟨rfl, by rw [hU]; exact hW, gK_moved hK hS hU hw⟩
def CtI (l : Launch) (y : MethodName) (b : ByteArray) (nl : Nat) (rt : FieldType) (d : Nat) (As : List Value) (g : gG) (A : Nat → Prop) (ad : Nat → Nat) (np : Nat) (u v : gS) (post : Int32 → gS × gS → Prop) : Prop := Met l y (.code y b nl (some rt) :: gWG) (rmD d 0 0) (gPc As g A ad np u v) (va_Qi post (fun t U => gW g A ad np t.1 t.2 U.heap) A) 0 0 A
def CtL (l : Launch) (y : MethodName) (b : ByteArray) (nl : Nat) (d : Nat) (As : List Value) (g : gG) (A : Nat → Prop) (ad : Nat → Nat) (np : Nat) (u v : gS) (post : Int64 → gS × gS → Prop) : Prop := Met l y (.code y b nl (some .long) :: gWG) (rmD d 0 0) (gPc As g A ad np u v) (va_Ql post (fun t U => gW g A ad np t.1 t.2 U.heap) A) 0 0 A
def CtV (l : Launch) (y : MethodName) (b : ByteArray) (nl : Nat) (d : Nat) (As : List Value) (g : gG) (A : Nat → Prop) (ad : Nat → Nat) (np : Nat) (u v : gS) (post : gS × gS → Prop) : Prop := Met l y (.code y b nl none :: gWG) (rmD d 0 0) (gPc As g A ad np u v) (va_Qv post (fun t U => gW g A ad np t.1 t.2 U.heap) A) 0 0 A
def BdI (l : Launch) (b : ByteArray) (nl : Nat) (own : String) (d : Nat) (As : List Value) (g : gG) (A : Nat → Prop) (ad : Nat → Nat) (np : Nat) (u v : gS) (post : Int32 → gS × gS → Prop) : Prop :=
  ∀ (p : Program) (e : Env) (R : Room) (s : State) (m : MethodId) (args : Array Value) (below : List Frame) (meth : Method) (c : Code) (Q : State → Prop) (ls : Array Slot), gcx g A p s m args c b nl own → gW g A ad np u v s.heap → va_S A s.heap s.heap [] → d ≤ R.frames ∧ 40 * d ≤ R.locals → lv_has ls nl (lv_args 0 As) →
    (∀ (r : Int32) (t : gS × gS) (H : Heap) (locs : List Loc) (pc : Nat) (ls : Array Slot), post r t → gW g A ad np t.1 t.2 H → va_S A s.heap H locs → decode b pc = .ok (.ireturn, 1) → W p l e R s m args below meth c H locs 0 0 Q (F0 m pc ls [.int r])) → W p l e R s m args below meth c s.heap [] 0 0 Q (F0 m 0 ls [])
def BdL (l : Launch) (b : ByteArray) (nl : Nat) (own : String) (d : Nat) (As : List Value) (g : gG) (A : Nat → Prop) (ad : Nat → Nat) (np : Nat) (u v : gS) (post : Int64 → gS × gS → Prop) : Prop :=
  ∀ (p : Program) (e : Env) (R : Room) (s : State) (m : MethodId) (args : Array Value) (below : List Frame) (meth : Method) (c : Code) (Q : State → Prop) (ls : Array Slot), gcx g A p s m args c b nl own → gW g A ad np u v s.heap → va_S A s.heap s.heap [] → d ≤ R.frames ∧ 40 * d ≤ R.locals → lv_has ls nl (lv_args 0 As) →
    (∀ (r : Int64) (t : gS × gS) (H : Heap) (locs : List Loc) (pc : Nat) (ls : Array Slot), post r t → gW g A ad np t.1 t.2 H → va_S A s.heap H locs → decode b pc = .ok (.lreturn, 1) → W p l e R s m args below meth c H locs 0 0 Q (F0 m pc ls [.long r])) → W p l e R s m args below meth c s.heap [] 0 0 Q (F0 m 0 ls [])
def BdV (l : Launch) (b : ByteArray) (nl : Nat) (own : String) (d : Nat) (As : List Value) (g : gG) (A : Nat → Prop) (ad : Nat → Nat) (np : Nat) (u v : gS) (post : gS × gS → Prop) : Prop :=
  ∀ (p : Program) (e : Env) (R : Room) (s : State) (m : MethodId) (args : Array Value) (below : List Frame) (meth : Method) (c : Code) (Q : State → Prop) (ls : Array Slot), gcx g A p s m args c b nl own → gW g A ad np u v s.heap → va_S A s.heap s.heap [] → d ≤ R.frames ∧ 40 * d ≤ R.locals → lv_has ls nl (lv_args 0 As) →
    (∀ (t : gS × gS) (H : Heap) (locs : List Loc) (pc : Nat) (ls : Array Slot), post t → gW g A ad np t.1 t.2 H → va_S A s.heap H locs → decode b pc = .ok (.return_, 1) → W p l e R s m args below meth c H locs 0 0 Q (F0 m pc ls [])) → W p l e R s m args below meth c s.heap [] 0 0 Q (F0 m 0 ls [])
section GMK
variable {l : Launch} {y : MethodName} {b : ByteArray} {nl d : Nat} {rt : FieldType} {As : List Value} {g : gG} {A : Nat → Prop} {ad : Nat → Nat} {np : Nat} {u v : gS} {own : String}
theorem mkI {post : Int32 → gS × gS → Prop} (hy : plainName y.cls = true) (ho : y.cls = own) (hlen : (lg_sl As).length ≤ nl) (hnar : ∀ r t, post r t → narrow rt (.int r) = .int r) (h : BdI l b nl own d As g A ad np u v post) : CtI l y b nl rt d As g A ad np u v post := by
  refine Met.ofW (cc := b) (maxL := nl) (ret := some rt) hy rfl ?_
  intro p e s m args below meth c s₁ B hml hv
  obtain ⟨rfl, hW, hK⟩ := hv
  subst ho
  have hts := atoms_spec (ws := .code y b nl (some rt) :: gWG) B.pre
  have hl := lv_entry As (n := nl) hlen
  rw [lg_entry_eq]
  generalize (lg_sl As ++ List.replicate (nl - (lg_sl As).length) Slot.unset).toArray = ls at hl ⊢
  have hlocks := B.notSynchronized
  exact h p e _ s m _ below meth c _ ls ⟨⟨B.exec, B.bytes, hml, findClass_of_methodNamed B.named, fun w hw => hts w (List.mem_cons_of_mem _ hw)⟩, hK⟩ hW va_S.rf ⟨Nat.le_refl _, Nat.le_refl _⟩ hl (fun r t H locs pc ls hp hW1 hS1 hd => W.zret B.exec B.bytes B.returns (hnar r t hp) (fun t' ht _ => ⟨⟨r, t, rfl, hp, by show gW _ _ _ _ _ _ _; rw [ht]; exact hW1⟩, hS1.F ht⟩) hS1.2.2 hd hlocks)
theorem mkL {post : Int64 → gS × gS → Prop} (hy : plainName y.cls = true) (ho : y.cls = own) (hlen : (lg_sl As).length ≤ nl) (h : BdL l b nl own d As g A ad np u v post) : CtL l y b nl d As g A ad np u v post := by
  refine Met.ofW (cc := b) (maxL := nl) (ret := some .long) hy rfl ?_
  intro p e s m args below meth c s₁ B hml hv
  obtain ⟨rfl, hW, hK⟩ := hv
  subst ho
  have hts := atoms_spec (ws := .code y b nl (some .long) :: gWG) B.pre
  have hl := lv_entry As (n := nl) hlen
  rw [lg_entry_eq]
  generalize (lg_sl As ++ List.replicate (nl - (lg_sl As).length) Slot.unset).toArray = ls at hl ⊢
  have hlocks := B.notSynchronized
  exact h p e _ s m _ below meth c _ ls ⟨⟨B.exec, B.bytes, hml, findClass_of_methodNamed B.named, fun w hw => hts w (List.mem_cons_of_mem _ hw)⟩, hK⟩ hW va_S.rf ⟨Nat.le_refl _, Nat.le_refl _⟩ hl (fun r t H locs pc ls hp hW1 hS1 hd => W.lret B.exec B.bytes B.returns (fun t' ht _ => ⟨⟨r, t, rfl, hp, by show gW _ _ _ _ _ _ _; rw [ht]; exact hW1⟩, hS1.F ht⟩) hS1.2.2 hd hlocks)
theorem mkV {post : gS × gS → Prop} (hy : plainName y.cls = true) (ho : y.cls = own) (hlen : (lg_sl As).length ≤ nl) (h : BdV l b nl own d As g A ad np u v post) : CtV l y b nl d As g A ad np u v post := by
  refine Met.ofW (cc := b) (maxL := nl) (ret := none) hy rfl ?_
  intro p e s m args below meth c s₁ B hml hv
  obtain ⟨rfl, hW, hK⟩ := hv
  subst ho
  have hts := atoms_spec (ws := .code y b nl none :: gWG) B.pre
  have hl := lv_entry As (n := nl) hlen
  rw [lg_entry_eq]
  generalize (lg_sl As ++ List.replicate (nl - (lg_sl As).length) Slot.unset).toArray = ls at hl ⊢
  have hlocks := B.notSynchronized
  exact h p e _ s m _ below meth c _ ls ⟨⟨B.exec, B.bytes, hml, findClass_of_methodNamed B.named, fun w hw => hts w (List.mem_cons_of_mem _ hw)⟩, hK⟩ hW va_S.rf ⟨Nat.le_refl _, Nat.le_refl _⟩ hl (fun t H locs pc ls hp hW1 hS1 hd => W.vret B.exec B.bytes B.returns (fun t' ht _ => ⟨⟨t, rfl, hp, by show gW _ _ _ _ _ _ _; rw [ht]; exact hW1⟩, hS1.F ht⟩) hS1.2.2 hd hlocks)
end GMK
/-- the words of a call: an instance method; a static one; a private static one of a nest mate -/
def gwD (y : MethodName) (n : Nat) : Prop := y.cls ≠ "java/lang/invoke/MethodHandle" ∧ y.cls ≠ "java/lang/invoke/VarHandle" ∧ (parseMethodDescriptor y.desc).map (fun d => d.parameters.length) = some n
def gwV (own : String) (index : Nat) (y : MethodName) (b : ByteArray) (nl : Nat) (ret : Option FieldType) (n : Nat) : Prop := Cond.methodLink own index y ∈ gWG ∧ Cond.instanceMethod y ∈ gWG ∧ Cond.selects y.cls y y ∈ gWG ∧ Cond.initialized y.cls ∈ gWG ∧ Cond.code y b nl ret ∈ gWG ∧ gwD y n
def gwS (own : String) (index : Nat) (y : MethodName) (b : ByteArray) (nl : Nat) (ret : Option FieldType) (n : Nat) : Prop := Cond.methodLink own index y ∈ gWG ∧ Cond.static y ∈ gWG ∧ Cond.initialized y.cls ∈ gWG ∧ Cond.code y b nl ret ∈ gWG ∧ gwD y n
def gwSN (own : String) (index : Nat) (y : MethodName) (host : String) (b : ByteArray) (nl : Nat) (ret : Option FieldType) (n : Nat) : Prop := Cond.methodLinkNest own index y host ∈ gN ∧ Cond.static y ∈ gWG ∧ Cond.initialized y.cls ∈ gWG ∧ Cond.code y b nl ret ∈ gWG ∧ gwD y n
theorem gWG_cons {x : Cond} (hx : x ∈ gWG) : GoodIn gWG (x :: gWG) := gWG_good0 (fun w hw => by rcases List.mem_cons.mp hw with rfl | h; exact hx; exact h)
section GCL
variable {p : Program} {l : Launch} {e : Env} {R : Room} {s : State} {m : MethodId} {args : Array Value} {below : List Frame} {meth : Method} {c : Code} {H : Heap} {locs : List Loc} {cells slots : Nat} {Q : State → Prop}
variable {cc : ByteArray} {pc nL : Nat} {ls : Array Slot} {rest st0 : List Value} {g : gG} {A : Nat → Prop} {ad : Nat → Nat} {np : Nat} {u v : gS} {own host : String} {index n maxL d : Nat} {y : MethodName} {bytes : ByteArray} {rt : FieldType} {b : Nat} {As : List Value}
theorem gcwV {ret : Option FieldType} (X : gcx g A p s m args c cc nL own) (hw : gwV own index y bytes maxL ret n) (hR : d + 1 ≤ R.frames ∧ 8 + (maxL + 11) + 40 * d ≤ R.locals) : CallW R s args own y.cls index y bytes maxL ret (.code y bytes maxL ret :: gWG) (rmD d 0 0) 0 0 n := by
  obtain ⟨⟨-, -, -, -, hts⟩, -⟩ := X
  obtain ⟨h1, h2, h3, h4, h5, h6⟩ := hw
  exact ⟨callB_of n hts (gWG_cons h5) rfl rfl rfl (hts _ h4) (hts _ h1) h6 hR, hts _ h2, hts _ h3⟩
theorem gcwS {ret : Option FieldType} (X : gcx g A p s m args c cc nL own) (hw : gwS own index y bytes maxL ret n) (hR : d + 1 ≤ R.frames ∧ 8 + (maxL + 11) + 40 * d ≤ R.locals) : CallB R s args own index y bytes maxL ret (.code y bytes maxL ret :: gWG) (rmD d 0 0) 0 0 n ∧ (Cond.static y).before args s = true := by
  obtain ⟨⟨-, -, -, -, hts⟩, -⟩ := X
  obtain ⟨h1, h2, h4, h5, h6⟩ := hw
  exact ⟨callB_of n hts (gWG_cons h5) rfl rfl rfl (hts _ h4) (hts _ h1) h6 hR, hts _ h2⟩
theorem gc_iV {post : Int32 → gS × gS → Prop} (X : gcx g A p s m args c cc nL own) (hw : gwV own index y bytes maxL (some rt) n) (hM : CtI l y bytes maxL rt d (.ref b :: As) g A ad np u v post) (hW : gW g A ad np u v H) (hS : va_S A s.heap H locs) (hv : ∃ cell : Cell, H[b]? = some cell ∧ cell.vm.isStatics = false ∧ s.vm.findClass y.cls = some cell.cls) (hR : d + 1 ≤ R.frames ∧ 8 + (maxL + 11) + 40 * d ≤ R.locals) (hn : As.length = n) (hls : ls.size = nL) (hst : st0 = As.reverse ++ .ref b :: rest) (hcat : (rest.map fun v => v.category).sum ≤ 8) (hdg : decode cc pc = .ok (.invokevirtual index, 3)) (hcr : cells + 0 ≤ R.cells ∧ slots + 0 ≤ R.slots)
    (kk : ∀ (r : Int32) (t : gS × gS) (H1 : Heap) (locs1 : List Loc), post r t → gW g A ad np t.1 t.2 H1 → va_S A s.heap H1 locs1 → W p l e R s m args below meth c H1 locs1 cells slots Q (F0 m (pc + 3) ls (.int r :: rest))) : W p l e R s m args below meth c H locs cells slots Q (F0 m pc ls st0) := by
  subst hst
  exact va_calli (va_runV X.1 hM (gcwV X hw hR) ⟨gPc_blind, hv, gPc_at X.2 hW hS⟩ rfl hn hls rfl (lv_room hcat) hdg hcr) hS (fun _ _ h => h) (fun _ h => h) (fun r t t' H1 locs1 ht _ hp hB _ _ hS1 => kk r t H1 locs1 hp (by rw [← ht]; exact hB) hS1)
theorem gc_lV {post : Int64 → gS × gS → Prop} (X : gcx g A p s m args c cc nL own) (hw : gwV own index y bytes maxL (some .long) n) (hM : CtL l y bytes maxL d (.ref b :: As) g A ad np u v post) (hW : gW g A ad np u v H) (hS : va_S A s.heap H locs) (hv : ∃ cell : Cell, H[b]? = some cell ∧ cell.vm.isStatics = false ∧ s.vm.findClass y.cls = some cell.cls) (hR : d + 1 ≤ R.frames ∧ 8 + (maxL + 11) + 40 * d ≤ R.locals) (hn : As.length = n) (hls : ls.size = nL) (hst : st0 = As.reverse ++ .ref b :: rest) (hcat : (rest.map fun v => v.category).sum ≤ 8) (hdg : decode cc pc = .ok (.invokevirtual index, 3)) (hcr : cells + 0 ≤ R.cells ∧ slots + 0 ≤ R.slots)
    (kk : ∀ (r : Int64) (t : gS × gS) (H1 : Heap) (locs1 : List Loc), post r t → gW g A ad np t.1 t.2 H1 → va_S A s.heap H1 locs1 → W p l e R s m args below meth c H1 locs1 cells slots Q (F0 m (pc + 3) ls (.long r :: rest))) : W p l e R s m args below meth c H locs cells slots Q (F0 m pc ls st0) := by
  subst hst
  exact va_calll (va_runV X.1 hM (gcwV X hw hR) ⟨gPc_blind, hv, gPc_at X.2 hW hS⟩ rfl hn hls rfl (lv_room hcat) hdg hcr) hS (fun _ _ h => h) (fun _ h => h) (fun r t t' H1 locs1 ht _ hp hB _ _ hS1 => kk r t H1 locs1 hp (by rw [← ht]; exact hB) hS1)
theorem gc_vV {post : gS × gS → Prop} (X : gcx g A p s m args c cc nL own) (hw : gwV own index y bytes maxL none n) (hM : CtV l y bytes maxL d (.ref b :: As) g A ad np u v post) (hW : gW g A ad np u v H) (hS : va_S A s.heap H locs) (hv : ∃ cell : Cell, H[b]? = some cell ∧ cell.vm.isStatics = false ∧ s.vm.findClass y.cls = some cell.cls) (hR : d + 1 ≤ R.frames ∧ 8 + (maxL + 11) + 40 * d ≤ R.locals) (hn : As.length = n) (hls : ls.size = nL) (hst : st0 = As.reverse ++ .ref b :: rest) (hcat : (rest.map fun v => v.category).sum ≤ 8) (hdg : decode cc pc = .ok (.invokevirtual index, 3)) (hcr : cells + 0 ≤ R.cells ∧ slots + 0 ≤ R.slots)
    (kk : ∀ (t : gS × gS) (H1 : Heap) (locs1 : List Loc), post t → gW g A ad np t.1 t.2 H1 → va_S A s.heap H1 locs1 → W p l e R s m args below meth c H1 locs1 cells slots Q (F0 m (pc + 3) ls rest)) : W p l e R s m args below meth c H locs cells slots Q (F0 m pc ls st0) := by
  subst hst
  exact va_callv (va_runV X.1 hM (gcwV X hw hR) ⟨gPc_blind, hv, gPc_at X.2 hW hS⟩ rfl hn hls rfl (lv_room hcat) hdg hcr) hS (fun _ _ h => h) (fun _ h => h) (fun t t' H1 locs1 ht _ hp hB _ _ hS1 => kk t H1 locs1 hp (by rw [← ht]; exact hB) hS1)
theorem gc_iS {post : Int32 → gS × gS → Prop} (X : gcx g A p s m args c cc nL own) (hw : gwS own index y bytes maxL (some rt) n) (hM : CtI l y bytes maxL rt d As g A ad np u v post) (hW : gW g A ad np u v H) (hS : va_S A s.heap H locs) (hR : d + 1 ≤ R.frames ∧ 8 + (maxL + 11) + 40 * d ≤ R.locals) (hn : As.length = n) (hls : ls.size = nL) (hst : st0 = As.reverse ++ rest) (hcat : (rest.map fun v => v.category).sum ≤ 8) (hdg : decode cc pc = .ok (.invokestatic index, 3)) (hcr : cells + 0 ≤ R.cells ∧ slots + 0 ≤ R.slots)
    (kk : ∀ (r : Int32) (t : gS × gS) (H1 : Heap) (locs1 : List Loc), post r t → gW g A ad np t.1 t.2 H1 → va_S A s.heap H1 locs1 → W p l e R s m args below meth c H1 locs1 cells slots Q (F0 m (pc + 3) ls (.int r :: rest))) : W p l e R s m args below meth c H locs cells slots Q (F0 m pc ls st0) := by
  subst hst
  exact va_calli (va_runS X.1 hM (gcwS X hw hR) ⟨gPc_blind, gPc_at X.2 hW hS⟩ rfl hn hls rfl (lv_room hcat) hdg hcr) hS (fun _ _ h => h) (fun _ h => h) (fun r t t' H1 locs1 ht _ hp hB _ _ hS1 => kk r t H1 locs1 hp (by rw [← ht]; exact hB) hS1)
theorem gc_iSN {post : Int32 → gS × gS → Prop} (X : gcx g A p s m args c cc nL own) (hw : gwSN own index y host bytes maxL (some rt) n) (hM : CtI l y bytes maxL rt d As g A ad np u v post) (hW : gW g A ad np u v H) (hS : va_S A s.heap H locs) (hR : d + 1 ≤ R.frames ∧ 8 + (maxL + 11) + 40 * d ≤ R.locals) (hn : As.length = n) (hls : ls.size = nL) (hst : st0 = As.reverse ++ rest) (hcat : (rest.map fun v => v.category).sum ≤ 8) (hdg : decode cc pc = .ok (.invokestatic index, 3)) (hcr : cells + 0 ≤ R.cells ∧ slots + 0 ≤ R.slots)
    (kk : ∀ (r : Int32) (t : gS × gS) (H1 : Heap) (locs1 : List Loc), post r t → gW g A ad np t.1 t.2 H1 → va_S A s.heap H1 locs1 → W p l e R s m args below meth c H1 locs1 cells slots Q (F0 m (pc + 3) ls (.int r :: rest))) : W p l e R s m args below meth c H locs cells slots Q (F0 m pc ls st0) := by
  subst hst
  have hts := X.1.2.2.2.2
  obtain ⟨h1, h2, h4, h5, h6⟩ := hw
  exact va_calli (va_runSN X.1 hM ⟨va_cnB n hts (gWG_cons h5) rfl rfl rfl (X.2.2.2.1 _ h1) (hts _ h4) h6 hR, hts _ h2, trivial⟩ ⟨gPc_blind, gPc_at X.2 hW hS⟩ rfl hn hls rfl (lv_room hcat) hdg hcr) hS (fun _ _ h => h) (fun _ h => h) (fun r t t' H1 locs1 ht _ hp hB _ _ hS1 => kk r t H1 locs1 hp (by rw [← ht]; exact hB) hS1)
end GCL
end
section
/-! Links: a row for each place of a class file that an instruction names. -/
section GLK
variable {p : Program} {l : Launch} {e : Env} {R : Room} {s : State} {m : MethodId} {args : Array Value} {below : List Frame} {meth : Method} {c : Code} {H : Heap} {locs : List Loc} {cells slots : Nat} {Q : State → Prop} {cc : ByteArray} {pc nL : Nat} {ls : Array Slot} {rest : List Value} {g : gG} {A : Nat → Prop} {ad : Nat → Nat} {np : Nat} {u v : gS}
theorem uin_PG : ∀ w ∈ u_ws R_PG F_PG 4, w ∈ gWG := by
  intro w hw
  obtain ⟨k, hk, rfl⟩ := List.mem_map.mp hw
  have hk := List.mem_range.mp hk
  match k, hk with
  | 0, _ => exact gWG_in (List.mem_append_right _ q188) rfl
  | 1, _ => exact gWG_in (List.mem_append_right _ q190) rfl
  | 2, _ => exact gWG_in (List.mem_append_right _ q192) rfl
  | 3, _ => exact gWG_in (List.mem_append_right _ q194) rfl
  | n + 4, h => exact absurd h (by omega)
theorem uin_Web : ∀ w ∈ u_ws R_Web F_Web 4, w ∈ gWG := by
  intro w hw
  obtain ⟨k, hk, rfl⟩ := List.mem_map.mp hw
  have hk := List.mem_range.mp hk
  match k, hk with
  | 0, _ => exact gWG_in (List.mem_append_right _ q74) rfl
  | 1, _ => exact gWG_in (List.mem_append_right _ q76) rfl
  | 2, _ => exact gWG_in (List.mem_append_right _ q78) rfl
  | 3, _ => exact gWG_in (List.mem_append_right _ q80) rfl
  | n + 4, h => exact absurd h (by omega)
theorem uin_Host : ∀ w ∈ u_ws R_Host F_Host 3, w ∈ gWG := by
  intro w hw
  obtain ⟨k, hk, rfl⟩ := List.mem_map.mp hw
  have hk := List.mem_range.mp hk
  match k, hk with
  | 0, _ => exact gWG_in (List.mem_append_right _ q38) rfl
  | 1, _ => exact gWG_in (List.mem_append_right _ q40) rfl
  | 2, _ => exact gWG_in (List.mem_append_right _ q42) rfl
  | n + 3, h => exact absurd h (by omega)
theorem uin_Row : ∀ w ∈ u_ws R_Row F_Row 2, w ∈ gWG := by
  intro w hw
  obtain ⟨k, hk, rfl⟩ := List.mem_map.mp hw
  have hk := List.mem_range.mp hk
  match k, hk with
  | 0, _ => exact gWG_in (List.mem_append_right _ q59) rfl
  | 1, _ => exact gWG_in (List.mem_append_right _ q61) rfl
  | n + 2, h => exact absurd h (by omega)
theorem uin_Page : ∀ w ∈ u_ws R_Page F_Page 6, w ∈ gWG := by
  intro w hw
  obtain ⟨k, hk, rfl⟩ := List.mem_map.mp hw
  have hk := List.mem_range.mp hk
  match k, hk with
  | 0, _ => exact gWG_in (List.mem_append_right _ q244) rfl
  | 1, _ => exact gWG_in (List.mem_append_right _ q246) rfl
  | 2, _ => exact gWG_in (List.mem_append_right _ q248) rfl
  | 3, _ => exact gWG_in (List.mem_append_right _ q250) rfl
  | 4, _ => exact gWG_in (List.mem_append_right _ q252) rfl
  | 5, _ => exact gWG_in (List.mem_append_right _ q254) rfl
  | n + 6, h => exact absurd h (by omega)
theorem uin_Gat : ∀ w ∈ u_ws R_Gat F_Gat 17, w ∈ gWG := by
  intro w hw
  obtain ⟨k, hk, rfl⟩ := List.mem_map.mp hw
  have hk := List.mem_range.mp hk
  match k, hk with
  | 0, _ => exact gWG_in (List.mem_append_right _ q112) rfl
  | 1, _ => exact gWG_in (List.mem_append_right _ q114) rfl
  | 2, _ => exact gWG_in (List.mem_append_right _ q116) rfl
  | 3, _ => exact gWG_in (List.mem_append_right _ q118) rfl
  | 4, _ => exact gWG_in (List.mem_append_right _ q120) rfl
  | 5, _ => exact gWG_in (List.mem_append_right _ q122) rfl
  | 6, _ => exact gWG_in (List.mem_append_right _ q124) rfl
  | 7, _ => exact gWG_in (List.mem_append_right _ q126) rfl
  | 8, _ => exact gWG_in (List.mem_append_right _ q128) rfl
  | 9, _ => exact gWG_in (List.mem_append_right _ q130) rfl
  | 10, _ => exact gWG_in (List.mem_append_right _ q132) rfl
  | 11, _ => exact gWG_in (List.mem_append_right _ q134) rfl
  | 12, _ => exact gWG_in (List.mem_append_right _ q136) rfl
  | 13, _ => exact gWG_in (List.mem_append_right _ q138) rfl
  | 14, _ => exact gWG_in (List.mem_append_right _ q140) rfl
  | 15, _ => exact gWG_in (List.mem_append_right _ q142) rfl
  | 16, _ => exact gWG_in (List.mem_append_right _ q144) rfl
  | n + 17, h => exact absurd h (by omega)
theorem uin_Rank : ∀ w ∈ u_ws R_Rank F_Rank 8, w ∈ gWG := by
  intro w hw
  obtain ⟨k, hk, rfl⟩ := List.mem_map.mp hw
  have hk := List.mem_range.mp hk
  match k, hk with
  | 0, _ => exact gWG_in (List.mem_append_right _ q166) rfl
  | 1, _ => exact gWG_in (List.mem_append_right _ q168) rfl
  | 2, _ => exact gWG_in (List.mem_append_right _ q170) rfl
  | 3, _ => exact gWG_in (List.mem_append_right _ q172) rfl
  | 4, _ => exact gWG_in (List.mem_append_right _ q174) rfl
  | 5, _ => exact gWG_in (List.mem_append_right _ q176) rfl
  | 6, _ => exact gWG_in (List.mem_append_right _ q178) rfl
  | 7, _ => exact gWG_in (List.mem_append_right _ q180) rfl
  | n + 8, h => exact absurd h (by omega)
theorem uin_Mod : ∀ w ∈ u_ws R_Mod F_Mod 37, w ∈ gWG := by
  intro w hw
  obtain ⟨k, hk, rfl⟩ := List.mem_map.mp hw
  have hk := List.mem_range.mp hk
  match k, hk with
  | 0, _ => exact gWG_in (List.mem_append_right _ q537) rfl
  | 1, _ => exact gWG_in (List.mem_append_right _ q539) rfl
  | 2, _ => exact gWG_in (List.mem_append_right _ q541) rfl
  | 3, _ => exact gWG_in (List.mem_append_right _ q543) rfl
  | 4, _ => exact gWG_in (List.mem_append_right _ q545) rfl
  | 5, _ => exact gWG_in (List.mem_append_right _ q547) rfl
  | 6, _ => exact gWG_in (List.mem_append_right _ q549) rfl
  | 7, _ => exact gWG_in (List.mem_append_right _ q551) rfl
  | 8, _ => exact gWG_in (List.mem_append_right _ q553) rfl
  | 9, _ => exact gWG_in (List.mem_append_right _ q555) rfl
  | 10, _ => exact gWG_in (List.mem_append_right _ q557) rfl
  | 11, _ => exact gWG_in (List.mem_append_right _ q559) rfl
  | 12, _ => exact gWG_in (List.mem_append_right _ q561) rfl
  | 13, _ => exact gWG_in (List.mem_append_right _ q563) rfl
  | 14, _ => exact gWG_in (List.mem_append_right _ q565) rfl
  | 15, _ => exact gWG_in (List.mem_append_right _ q567) rfl
  | 16, _ => exact gWG_in (List.mem_append_right _ q569) rfl
  | 17, _ => exact gWG_in (List.mem_append_right _ q571) rfl
  | 18, _ => exact gWG_in (List.mem_append_right _ q573) rfl
  | 19, _ => exact gWG_in (List.mem_append_right _ q575) rfl
  | 20, _ => exact gWG_in (List.mem_append_right _ q577) rfl
  | 21, _ => exact gWG_in (List.mem_append_right _ q579) rfl
  | 22, _ => exact gWG_in (List.mem_append_right _ q581) rfl
  | 23, _ => exact gWG_in (List.mem_append_right _ q583) rfl
  | 24, _ => exact gWG_in (List.mem_append_right _ q585) rfl
  | 25, _ => exact gWG_in (List.mem_append_right _ q587) rfl
  | 26, _ => exact gWG_in (List.mem_append_right _ q589) rfl
  | 27, _ => exact gWG_in (List.mem_append_right _ q591) rfl
  | 28, _ => exact gWG_in (List.mem_append_right _ q593) rfl
  | 29, _ => exact gWG_in (List.mem_append_right _ q595) rfl
  | 30, _ => exact gWG_in (List.mem_append_right _ q597) rfl
  | 31, _ => exact gWG_in (List.mem_append_right _ q599) rfl
  | 32, _ => exact gWG_in (List.mem_append_right _ q601) rfl
  | 33, _ => exact gWG_in (List.mem_append_right _ q603) rfl
  | 34, _ => exact gWG_in (List.mem_append_right _ q605) rfl
  | 35, _ => exact gWG_in (List.mem_append_right _ q607) rfl
  | 36, _ => exact gWG_in (List.mem_append_right _ q609) rfl
  | n + 37, h => exact absurd h (by omega)
theorem gf_Host_9 (X : gcx g A p s m args c cc nL R_Host) (hW : gW g A ad np u v H) {k : Nat} (hk : k < 94 + 5 * np) (hkk : gk k = 2) (hdg : decode cc pc = .ok (.getfield 9, 3)) (kk : W p l e R s m args below meth c H locs cells slots Q (F0 m (pc + 3) ls (.ref (ad (k + 1)) :: rest))) : W p l e R s m args below meth c H locs cells slots Q (F0 m pc ls (.ref (ad k) :: rest)) := gy_gr (t := k + 1) (C := R_Host) (T := F_Host) (N := 3) (ci := 2) (fs := gf2 ad k) (own := R_Host) (ref := R_Host) (index := 9) (j := 0) X.1.1 X.1.2.1 X.1.2.2.2.2 uin_Host X.1.2.2.2.1 X.2.1 rfl (by decide) (X.1.2.2.2.2 _ (gWG_in (List.mem_append_right _ q35) rfl)) (fun _ h => h) (fun _ => rfl) hW hk (fun σ τ => ge_2 hkk σ τ) hdg kk
theorem gf_Host_15 (X : gcx g A p s m args c cc nL R_Host) (hW : gW g A ad np u v H) {k : Nat} (hk : k < 94 + 5 * np) (hkk : gk k = 2) (hdg : decode cc pc = .ok (.getfield 15, 3)) (kk : W p l e R s m args below meth c H locs cells slots Q (F0 m (pc + 3) ls (.ref (ad (k + 2)) :: rest))) : W p l e R s m args below meth c H locs cells slots Q (F0 m pc ls (.ref (ad k) :: rest)) := gy_gr (t := k + 2) (C := R_Host) (T := F_Host) (N := 3) (ci := 2) (fs := gf2 ad k) (own := R_Host) (ref := R_Host) (index := 15) (j := 1) X.1.1 X.1.2.1 X.1.2.2.2.2 uin_Host X.1.2.2.2.1 X.2.1 rfl (by decide) (X.1.2.2.2.2 _ (gWG_in (List.mem_append_right _ q36) rfl)) (fun _ h => h) (fun _ => rfl) hW hk (fun σ τ => ge_2 hkk σ τ) hdg kk
theorem gf_Host_19 {q : Nat × Nat × Nat} {z : Int32} (X : gcx g A p s m args c cc nL R_Host) (hW : gW g A ad np u v H) {k : Nat} (hk : k < 94 + 5 * np) (hkk : gk k = 2) (hq : gv np q) (hg : gi q = (k, 2)) (hz : gr u v q = z) (hdg : decode cc pc = .ok (.getfield 19, 3)) (kk : W p l e R s m args below meth c H locs cells slots Q (F0 m (pc + 3) ls (.int z :: rest))) : W p l e R s m args below meth c H locs cells slots Q (F0 m pc ls (.ref (ad k) :: rest)) := gy_gi (C := R_Host) (T := F_Host) (N := 3) (ci := 2) (fs := gf2 ad k) (own := R_Host) (ref := R_Host) (index := 19) (j := 2) X.1.1 X.1.2.1 X.1.2.2.2.2 uin_Host X.1.2.2.2.1 X.2.1 rfl (by decide) (X.1.2.2.2.2 _ (gWG_in (List.mem_append_right _ q37) rfl)) (fun _ h => h) (fun _ => rfl) hW hk (fun σ τ => ge_2 hkk σ τ) hq hg hz hdg kk
theorem pf_Host_19 {q : Nat × Nat × Nat} {z : Int32} (X : gcx g A p s m args c cc nL R_Host) (hW : gW g A ad np u v H) (hS : va_S A s.heap H locs) {k : Nat} (hk : k < 94 + 5 * np) (hkk : gk k = 2) (hq : gv np q) (hg : gi q = (k, 2)) (hn : narrow (.int) (.int z) = .int z) (hfit : fits (.int) (.int z) = true) (hdg : decode cc pc = .ok (.putfield 19, 3)) (kk : ∀ (H1 : Heap) (locs1 : List Loc), gW g A ad np (gx u v q z).1 (gx u v q z).2 H1 → va_S A s.heap H1 locs1 → W p l e R s m args below meth c H1 locs1 cells slots Q (F0 m (pc + 3) ls rest)) : W p l e R s m args below meth c H locs cells slots Q (F0 m pc ls (.int z :: .ref (ad k) :: rest)) := gy_pi (C := R_Host) (T := F_Host) (N := 3) (ci := 2) (fs := gf2 ad k) (own := R_Host) (ref := R_Host) (index := 19) (j := 2) (ty := .int) X.1.1 X.1.2.1 X.1.2.2.2.2 uin_Host t_Host t_Host_ok n_Host X.1.2.2.2.1 X.2.1 rfl (by decide) (X.1.2.2.2.2 _ (gWG_in (List.mem_append_right _ q37) rfl)) (fun _ h => h) rfl rfl (fun _ => (by show 2 < 3; decide)) (fun r x => rfl) hW hS hk (fun σ τ => ge_2 hkk σ τ) hq hg hn hfit hdg kk
theorem gf_Row_9 (X : gcx g A p s m args c cc nL R_Row) (hW : gW g A ad np u v H) {k : Nat} (hk : k < 94 + 5 * np) (hkk : gk k = 3) (hdg : decode cc pc = .ok (.getfield 9, 3)) (kk : W p l e R s m args below meth c H locs cells slots Q (F0 m (pc + 3) ls (.ref (ad (k + 1)) :: rest))) : W p l e R s m args below meth c H locs cells slots Q (F0 m pc ls (.ref (ad k) :: rest)) := gy_gr (t := k + 1) (C := R_Row) (T := F_Row) (N := 2) (ci := 3) (fs := gf3 ad k) (own := R_Row) (ref := R_Row) (index := 9) (j := 0) X.1.1 X.1.2.1 X.1.2.2.2.2 uin_Row X.1.2.2.2.1 X.2.1 rfl (by decide) (X.1.2.2.2.2 _ (gWG_in (List.mem_append_right _ q53) rfl)) (fun _ h => h) (fun _ => rfl) hW hk (fun σ τ => ge_3 hkk σ τ) hdg kk
theorem gf_Row_15 {q : Nat × Nat × Nat} {z : Int32} (X : gcx g A p s m args c cc nL R_Row) (hW : gW g A ad np u v H) {k : Nat} (hk : k < 94 + 5 * np) (hkk : gk k = 3) (hq : gv np q) (hg : gi q = (k, 1)) (hz : gr u v q = z) (hdg : decode cc pc = .ok (.getfield 15, 3)) (kk : W p l e R s m args below meth c H locs cells slots Q (F0 m (pc + 3) ls (.int z :: rest))) : W p l e R s m args below meth c H locs cells slots Q (F0 m pc ls (.ref (ad k) :: rest)) := gy_gi (C := R_Row) (T := F_Row) (N := 2) (ci := 3) (fs := gf3 ad k) (own := R_Row) (ref := R_Row) (index := 15) (j := 1) X.1.1 X.1.2.1 X.1.2.2.2.2 uin_Row X.1.2.2.2.1 X.2.1 rfl (by decide) (X.1.2.2.2.2 _ (gWG_in (List.mem_append_right _ q54) rfl)) (fun _ h => h) (fun _ => rfl) hW hk (fun σ τ => ge_3 hkk σ τ) hq hg hz hdg kk
theorem pf_Row_15 {q : Nat × Nat × Nat} {z : Int32} (X : gcx g A p s m args c cc nL R_Row) (hW : gW g A ad np u v H) (hS : va_S A s.heap H locs) {k : Nat} (hk : k < 94 + 5 * np) (hkk : gk k = 3) (hq : gv np q) (hg : gi q = (k, 1)) (hn : narrow (.int) (.int z) = .int z) (hfit : fits (.int) (.int z) = true) (hdg : decode cc pc = .ok (.putfield 15, 3)) (kk : ∀ (H1 : Heap) (locs1 : List Loc), gW g A ad np (gx u v q z).1 (gx u v q z).2 H1 → va_S A s.heap H1 locs1 → W p l e R s m args below meth c H1 locs1 cells slots Q (F0 m (pc + 3) ls rest)) : W p l e R s m args below meth c H locs cells slots Q (F0 m pc ls (.int z :: .ref (ad k) :: rest)) := gy_pi (C := R_Row) (T := F_Row) (N := 2) (ci := 3) (fs := gf3 ad k) (own := R_Row) (ref := R_Row) (index := 15) (j := 1) (ty := .int) X.1.1 X.1.2.1 X.1.2.2.2.2 uin_Row t_Row t_Row_ok n_Row X.1.2.2.2.1 X.2.1 rfl (by decide) (X.1.2.2.2.2 _ (gWG_in (List.mem_append_right _ q54) rfl)) (fun _ h => h) rfl rfl (fun _ => (by show 1 < 2; decide)) (fun r x => rfl) hW hS hk (fun σ τ => ge_3 hkk σ τ) hq hg hn hfit hdg kk
theorem gf_Rank_67 {q : Nat × Nat × Nat} {z : Int32} (X : gcx g A p s m args c cc nL R_Rank) (hW : gW g A ad np u v H) {k : Nat} (hk : k < 94 + 5 * np) (hkk : gk k = 3) (hq : gv np q) (hg : gi q = (k, 1)) (hz : gr u v q = z) (hdg : decode cc pc = .ok (.getfield 67, 3)) (kk : W p l e R s m args below meth c H locs cells slots Q (F0 m (pc + 3) ls (.int z :: rest))) : W p l e R s m args below meth c H locs cells slots Q (F0 m pc ls (.ref (ad k) :: rest)) := gy_giN (C := R_Row) (T := F_Row) (N := 2) (ci := 3) (fs := gf3 ad k) (own := R_Rank) (ref := R_Row) (index := 67) (j := 1) (host := "PoliteGatherer") X.1.1 X.1.2.1 X.1.2.2.2.2 uin_Row X.1.2.2.2.1 X.2.1 rfl (by decide) (va_Nw.use rfl (X.2.2.2.1 _ (gN_in (List.mem_append_right _ q55) rfl))) (fun _ h => h) (fun _ => rfl) hW hk (fun σ τ => ge_3 hkk σ τ) hq hg hz hdg kk
theorem gf_Gat_77 {q : Nat × Nat × Nat} {z : Int32} (X : gcx g A p s m args c cc nL R_Gat) (hW : gW g A ad np u v H) {k : Nat} (hk : k < 94 + 5 * np) (hkk : gk k = 3) (hq : gv np q) (hg : gi q = (k, 1)) (hz : gr u v q = z) (hdg : decode cc pc = .ok (.getfield 77, 3)) (kk : W p l e R s m args below meth c H locs cells slots Q (F0 m (pc + 3) ls (.int z :: rest))) : W p l e R s m args below meth c H locs cells slots Q (F0 m pc ls (.ref (ad k) :: rest)) := gy_giN (C := R_Row) (T := F_Row) (N := 2) (ci := 3) (fs := gf3 ad k) (own := R_Gat) (ref := R_Row) (index := 77) (j := 1) (host := "PoliteGatherer") X.1.1 X.1.2.1 X.1.2.2.2.2 uin_Row X.1.2.2.2.1 X.2.1 rfl (by decide) (va_Nw.use rfl (X.2.2.2.1 _ (gN_in (List.mem_append_right _ q56) rfl))) (fun _ h => h) (fun _ => rfl) hW hk (fun σ τ => ge_3 hkk σ τ) hq hg hz hdg kk
theorem gf_Page_42 {q : Nat × Nat × Nat} {z : Int32} (X : gcx g A p s m args c cc nL R_Page) (hW : gW g A ad np u v H) {k : Nat} (hk : k < 94 + 5 * np) (hkk : gk k = 3) (hq : gv np q) (hg : gi q = (k, 1)) (hz : gr u v q = z) (hdg : decode cc pc = .ok (.getfield 42, 3)) (kk : W p l e R s m args below meth c H locs cells slots Q (F0 m (pc + 3) ls (.int z :: rest))) : W p l e R s m args below meth c H locs cells slots Q (F0 m pc ls (.ref (ad k) :: rest)) := gy_giN (C := R_Row) (T := F_Row) (N := 2) (ci := 3) (fs := gf3 ad k) (own := R_Page) (ref := R_Row) (index := 42) (j := 1) (host := "PoliteGatherer") X.1.1 X.1.2.1 X.1.2.2.2.2 uin_Row X.1.2.2.2.1 X.2.1 rfl (by decide) (va_Nw.use rfl (X.2.2.2.1 _ (gN_in (List.mem_append_right _ q57) rfl))) (fun _ h => h) (fun _ => rfl) hW hk (fun σ τ => ge_3 hkk σ τ) hq hg hz hdg kk
theorem gf_PG_104 {q : Nat × Nat × Nat} {z : Int32} (X : gcx g A p s m args c cc nL R_PG) (hW : gW g A ad np u v H) {k : Nat} (hk : k < 94 + 5 * np) (hkk : gk k = 3) (hq : gv np q) (hg : gi q = (k, 1)) (hz : gr u v q = z) (hdg : decode cc pc = .ok (.getfield 104, 3)) (kk : W p l e R s m args below meth c H locs cells slots Q (F0 m (pc + 3) ls (.int z :: rest))) : W p l e R s m args below meth c H locs cells slots Q (F0 m pc ls (.ref (ad k) :: rest)) := gy_giN (C := R_Row) (T := F_Row) (N := 2) (ci := 3) (fs := gf3 ad k) (own := R_PG) (ref := R_Row) (index := 104) (j := 1) (host := "PoliteGatherer") X.1.1 X.1.2.1 X.1.2.2.2.2 uin_Row X.1.2.2.2.1 X.2.1 rfl (by decide) (va_Nw.use rfl (X.2.2.2.1 _ (gN_in (List.mem_append_right _ q58) rfl))) (fun _ h => h) (fun _ => rfl) hW hk (fun σ τ => ge_3 hkk σ τ) hq hg hz hdg kk
theorem gf_Web_11 (X : gcx g A p s m args c cc nL R_Web) (hW : gW g A ad np u v H) (hdg : decode cc pc = .ok (.getfield 11, 3)) (kk : W p l e R s m args below meth c H locs cells slots Q (F0 m (pc + 3) ls (.ref (ad (2)) :: rest))) : W p l e R s m args below meth c H locs cells slots Q (F0 m pc ls (.ref (ad 1) :: rest)) := gy_gr (t := 2) (C := R_Web) (T := F_Web) (N := 4) (ci := 1) (fs := gf1 ad) (own := R_Web) (ref := R_Web) (index := 11) (j := 0) X.1.1 X.1.2.1 X.1.2.2.2.2 uin_Web X.1.2.2.2.1 X.2.1 rfl (by decide) (X.1.2.2.2.2 _ (gWG_in (List.mem_append_right _ q64) rfl)) (fun _ h => h) (fun _ => rfl) hW (by omega) (fun σ τ => ge_1 rfl σ τ) hdg kk
theorem gf_Rank_56 (X : gcx g A p s m args c cc nL R_Rank) (hW : gW g A ad np u v H) (hdg : decode cc pc = .ok (.getfield 56, 3)) (kk : W p l e R s m args below meth c H locs cells slots Q (F0 m (pc + 3) ls (.ref (ad (2)) :: rest))) : W p l e R s m args below meth c H locs cells slots Q (F0 m pc ls (.ref (ad 1) :: rest)) := gy_grN (t := 2) (C := R_Web) (T := F_Web) (N := 4) (ci := 1) (fs := gf1 ad) (own := R_Rank) (ref := R_Web) (index := 56) (j := 0) (host := "PoliteGatherer") X.1.1 X.1.2.1 X.1.2.2.2.2 uin_Web X.1.2.2.2.1 X.2.1 rfl (by decide) (va_Nw.use rfl (X.2.2.2.1 _ (gN_in (List.mem_append_right _ q65) rfl))) (fun _ h => h) (fun _ => rfl) hW (by omega) (fun σ τ => ge_1 rfl σ τ) hdg kk
theorem gf_PG_50 (X : gcx g A p s m args c cc nL R_PG) (hW : gW g A ad np u v H) (hdg : decode cc pc = .ok (.getfield 50, 3)) (kk : W p l e R s m args below meth c H locs cells slots Q (F0 m (pc + 3) ls (.ref (ad (2)) :: rest))) : W p l e R s m args below meth c H locs cells slots Q (F0 m pc ls (.ref (ad 1) :: rest)) := gy_grN (t := 2) (C := R_Web) (T := F_Web) (N := 4) (ci := 1) (fs := gf1 ad) (own := R_PG) (ref := R_Web) (index := 50) (j := 0) (host := "PoliteGatherer") X.1.1 X.1.2.1 X.1.2.2.2.2 uin_Web X.1.2.2.2.1 X.2.1 rfl (by decide) (va_Nw.use rfl (X.2.2.2.1 _ (gN_in (List.mem_append_right _ q66) rfl))) (fun _ h => h) (fun _ => rfl) hW (by omega) (fun σ τ => ge_1 rfl σ τ) hdg kk
theorem gf_Gat_95 (X : gcx g A p s m args c cc nL R_Gat) (hW : gW g A ad np u v H) (hdg : decode cc pc = .ok (.getfield 95, 3)) (kk : W p l e R s m args below meth c H locs cells slots Q (F0 m (pc + 3) ls (.ref (ad (2)) :: rest))) : W p l e R s m args below meth c H locs cells slots Q (F0 m pc ls (.ref (ad 1) :: rest)) := gy_grN (t := 2) (C := R_Web) (T := F_Web) (N := 4) (ci := 1) (fs := gf1 ad) (own := R_Gat) (ref := R_Web) (index := 95) (j := 0) (host := "PoliteGatherer") X.1.1 X.1.2.1 X.1.2.2.2.2 uin_Web X.1.2.2.2.1 X.2.1 rfl (by decide) (va_Nw.use rfl (X.2.2.2.1 _ (gN_in (List.mem_append_right _ q67) rfl))) (fun _ h => h) (fun _ => rfl) hW (by omega) (fun σ τ => ge_1 rfl σ τ) hdg kk
theorem gf_Web_19 (X : gcx g A p s m args c cc nL R_Web) (hW : gW g A ad np u v H) (hdg : decode cc pc = .ok (.getfield 19, 3)) (kk : W p l e R s m args below meth c H locs cells slots Q (F0 m (pc + 3) ls (.ref (ad (3)) :: rest))) : W p l e R s m args below meth c H locs cells slots Q (F0 m pc ls (.ref (ad 1) :: rest)) := gy_gr (t := 3) (C := R_Web) (T := F_Web) (N := 4) (ci := 1) (fs := gf1 ad) (own := R_Web) (ref := R_Web) (index := 19) (j := 1) X.1.1 X.1.2.1 X.1.2.2.2.2 uin_Web X.1.2.2.2.1 X.2.1 rfl (by decide) (X.1.2.2.2.2 _ (gWG_in (List.mem_append_right _ q68) rfl)) (fun _ h => h) (fun _ => rfl) hW (by omega) (fun σ τ => ge_1 rfl σ τ) hdg kk
theorem gf_PG_91 (X : gcx g A p s m args c cc nL R_PG) (hW : gW g A ad np u v H) (hdg : decode cc pc = .ok (.getfield 91, 3)) (kk : W p l e R s m args below meth c H locs cells slots Q (F0 m (pc + 3) ls (.ref (ad (3)) :: rest))) : W p l e R s m args below meth c H locs cells slots Q (F0 m pc ls (.ref (ad 1) :: rest)) := gy_grN (t := 3) (C := R_Web) (T := F_Web) (N := 4) (ci := 1) (fs := gf1 ad) (own := R_PG) (ref := R_Web) (index := 91) (j := 1) (host := "PoliteGatherer") X.1.1 X.1.2.1 X.1.2.2.2.2 uin_Web X.1.2.2.2.1 X.2.1 rfl (by decide) (va_Nw.use rfl (X.2.2.2.1 _ (gN_in (List.mem_append_right _ q69) rfl))) (fun _ h => h) (fun _ => rfl) hW (by omega) (fun σ τ => ge_1 rfl σ τ) hdg kk
theorem gf_Gat_65 (X : gcx g A p s m args c cc nL R_Gat) (hW : gW g A ad np u v H) (hdg : decode cc pc = .ok (.getfield 65, 3)) (kk : W p l e R s m args below meth c H locs cells slots Q (F0 m (pc + 3) ls (.ref (ad (22)) :: rest))) : W p l e R s m args below meth c H locs cells slots Q (F0 m pc ls (.ref (ad 1) :: rest)) := gy_grN (t := 22) (C := R_Web) (T := F_Web) (N := 4) (ci := 1) (fs := gf1 ad) (own := R_Gat) (ref := R_Web) (index := 65) (j := 2) (host := "PoliteGatherer") X.1.1 X.1.2.1 X.1.2.2.2.2 uin_Web X.1.2.2.2.1 X.2.1 rfl (by decide) (va_Nw.use rfl (X.2.2.2.1 _ (gN_in (List.mem_append_right _ q71) rfl))) (fun _ h => h) (fun _ => rfl) hW (by omega) (fun σ τ => ge_1 rfl σ τ) hdg kk
theorem gf_PG_101 (X : gcx g A p s m args c cc nL R_PG) (hW : gW g A ad np u v H) (hdg : decode cc pc = .ok (.getfield 101, 3)) (kk : W p l e R s m args below meth c H locs cells slots Q (F0 m (pc + 3) ls (.ref (ad (22)) :: rest))) : W p l e R s m args below meth c H locs cells slots Q (F0 m pc ls (.ref (ad 1) :: rest)) := gy_grN (t := 22) (C := R_Web) (T := F_Web) (N := 4) (ci := 1) (fs := gf1 ad) (own := R_PG) (ref := R_Web) (index := 101) (j := 2) (host := "PoliteGatherer") X.1.1 X.1.2.1 X.1.2.2.2.2 uin_Web X.1.2.2.2.1 X.2.1 rfl (by decide) (va_Nw.use rfl (X.2.2.2.1 _ (gN_in (List.mem_append_right _ q72) rfl))) (fun _ h => h) (fun _ => rfl) hW (by omega) (fun σ τ => ge_1 rfl σ τ) hdg kk
theorem gf_Web_33 {q : Nat × Nat × Nat} {z : Int32} (X : gcx g A p s m args c cc nL R_Web) (hW : gW g A ad np u v H) (hq : gv np q) (hg : gi q = (1, 3)) (hz : gr u v q = z) (hdg : decode cc pc = .ok (.getfield 33, 3)) (kk : W p l e R s m args below meth c H locs cells slots Q (F0 m (pc + 3) ls (.int z :: rest))) : W p l e R s m args below meth c H locs cells slots Q (F0 m pc ls (.ref (ad 1) :: rest)) := gy_gi (C := R_Web) (T := F_Web) (N := 4) (ci := 1) (fs := gf1 ad) (own := R_Web) (ref := R_Web) (index := 33) (j := 3) X.1.1 X.1.2.1 X.1.2.2.2.2 uin_Web X.1.2.2.2.1 X.2.1 rfl (by decide) (X.1.2.2.2.2 _ (gWG_in (List.mem_append_right _ q73) rfl)) (fun _ h => h) (fun _ => rfl) hW (by omega) (fun σ τ => ge_1 rfl σ τ) hq hg hz hdg kk
theorem pf_Web_33 {q : Nat × Nat × Nat} {z : Int32} (X : gcx g A p s m args c cc nL R_Web) (hW : gW g A ad np u v H) (hS : va_S A s.heap H locs) (hq : gv np q) (hg : gi q = (1, 3)) (hn : narrow (.int) (.int z) = .int z) (hfit : fits (.int) (.int z) = true) (hdg : decode cc pc = .ok (.putfield 33, 3)) (kk : ∀ (H1 : Heap) (locs1 : List Loc), gW g A ad np (gx u v q z).1 (gx u v q z).2 H1 → va_S A s.heap H1 locs1 → W p l e R s m args below meth c H1 locs1 cells slots Q (F0 m (pc + 3) ls rest)) : W p l e R s m args below meth c H locs cells slots Q (F0 m pc ls (.int z :: .ref (ad 1) :: rest)) := gy_pi (C := R_Web) (T := F_Web) (N := 4) (ci := 1) (fs := gf1 ad) (own := R_Web) (ref := R_Web) (index := 33) (j := 3) (ty := .int) X.1.1 X.1.2.1 X.1.2.2.2.2 uin_Web t_Web t_Web_ok n_Web X.1.2.2.2.1 X.2.1 rfl (by decide) (X.1.2.2.2.2 _ (gWG_in (List.mem_append_right _ q73) rfl)) (fun _ h => h) rfl rfl (fun _ => (by show 3 < 4; decide)) (fun r x => rfl) hW hS (by omega) (fun σ τ => ge_1 rfl σ τ) hq hg hn hfit hdg kk
theorem gf_Gat_9 (X : gcx g A p s m args c cc nL R_Gat) (hW : gW g A ad np u v H) (hdg : decode cc pc = .ok (.getfield 9, 3)) (kk : W p l e R s m args below meth c H locs cells slots Q (F0 m (pc + 3) ls (.ref (ad (1)) :: rest))) : W p l e R s m args below meth c H locs cells slots Q (F0 m pc ls (.ref (ad 24) :: rest)) := gy_gr (t := 1) (C := R_Gat) (T := F_Gat) (N := 17) (ci := 5) (fs := gf5 ad) (own := R_Gat) (ref := R_Gat) (index := 9) (j := 0) X.1.1 X.1.2.1 X.1.2.2.2.2 uin_Gat X.1.2.2.2.1 X.2.1 rfl (by decide) (X.1.2.2.2.2 _ (gWG_in (List.mem_append_right _ q91) rfl)) (fun _ h => h) (fun _ => rfl) hW (by omega) (fun σ τ => ge_5 rfl σ τ) hdg kk
theorem gf_Gat_20 (X : gcx g A p s m args c cc nL R_Gat) (hW : gW g A ad np u v H) (hdg : decode cc pc = .ok (.getfield 20, 3)) (kk : W p l e R s m args below meth c H locs cells slots Q (F0 m (pc + 3) ls (.ref (ad (25)) :: rest))) : W p l e R s m args below meth c H locs cells slots Q (F0 m pc ls (.ref (ad 24) :: rest)) := gy_gr (t := 25) (C := R_Gat) (T := F_Gat) (N := 17) (ci := 5) (fs := gf5 ad) (own := R_Gat) (ref := R_Gat) (index := 20) (j := 1) X.1.1 X.1.2.1 X.1.2.2.2.2 uin_Gat X.1.2.2.2.1 X.2.1 rfl (by decide) (X.1.2.2.2.2 _ (gWG_in (List.mem_append_right _ q92) rfl)) (fun _ h => h) (fun _ => rfl) hW (by omega) (fun σ τ => ge_5 rfl σ τ) hdg kk
theorem gf_Gat_24 (X : gcx g A p s m args c cc nL R_Gat) (hW : gW g A ad np u v H) (hdg : decode cc pc = .ok (.getfield 24, 3)) (kk : W p l e R s m args below meth c H locs cells slots Q (F0 m (pc + 3) ls (.ref (ad (27)) :: rest))) : W p l e R s m args below meth c H locs cells slots Q (F0 m pc ls (.ref (ad 24) :: rest)) := gy_gr (t := 27) (C := R_Gat) (T := F_Gat) (N := 17) (ci := 5) (fs := gf5 ad) (own := R_Gat) (ref := R_Gat) (index := 24) (j := 2) X.1.1 X.1.2.1 X.1.2.2.2.2 uin_Gat X.1.2.2.2.1 X.2.1 rfl (by decide) (X.1.2.2.2.2 _ (gWG_in (List.mem_append_right _ q93) rfl)) (fun _ h => h) (fun _ => rfl) hW (by omega) (fun σ τ => ge_5 rfl σ τ) hdg kk
theorem gf_Gat_27 (X : gcx g A p s m args c cc nL R_Gat) (hW : gW g A ad np u v H) (hdg : decode cc pc = .ok (.getfield 27, 3)) (kk : W p l e R s m args below meth c H locs cells slots Q (F0 m (pc + 3) ls (.ref (ad (29)) :: rest))) : W p l e R s m args below meth c H locs cells slots Q (F0 m pc ls (.ref (ad 24) :: rest)) := gy_gr (t := 29) (C := R_Gat) (T := F_Gat) (N := 17) (ci := 5) (fs := gf5 ad) (own := R_Gat) (ref := R_Gat) (index := 27) (j := 3) X.1.1 X.1.2.1 X.1.2.2.2.2 uin_Gat X.1.2.2.2.1 X.2.1 rfl (by decide) (X.1.2.2.2.2 _ (gWG_in (List.mem_append_right _ q94) rfl)) (fun _ h => h) (fun _ => rfl) hW (by omega) (fun σ τ => ge_5 rfl σ τ) hdg kk
theorem gf_Gat_30 (X : gcx g A p s m args c cc nL R_Gat) (hW : gW g A ad np u v H) (hdg : decode cc pc = .ok (.getfield 30, 3)) (kk : W p l e R s m args below meth c H locs cells slots Q (F0 m (pc + 3) ls (.ref (ad (31)) :: rest))) : W p l e R s m args below meth c H locs cells slots Q (F0 m pc ls (.ref (ad 24) :: rest)) := gy_gr (t := 31) (C := R_Gat) (T := F_Gat) (N := 17) (ci := 5) (fs := gf5 ad) (own := R_Gat) (ref := R_Gat) (index := 30) (j := 4) X.1.1 X.1.2.1 X.1.2.2.2.2 uin_Gat X.1.2.2.2.1 X.2.1 rfl (by decide) (X.1.2.2.2.2 _ (gWG_in (List.mem_append_right _ q95) rfl)) (fun _ h => h) (fun _ => rfl) hW (by omega) (fun σ τ => ge_5 rfl σ τ) hdg kk
theorem gf_Rank_47 (X : gcx g A p s m args c cc nL R_Rank) (hW : gW g A ad np u v H) (hdg : decode cc pc = .ok (.getfield 47, 3)) (kk : W p l e R s m args below meth c H locs cells slots Q (F0 m (pc + 3) ls (.ref (ad (31)) :: rest))) : W p l e R s m args below meth c H locs cells slots Q (F0 m pc ls (.ref (ad 24) :: rest)) := gy_grN (t := 31) (C := R_Gat) (T := F_Gat) (N := 17) (ci := 5) (fs := gf5 ad) (own := R_Rank) (ref := R_Gat) (index := 47) (j := 4) (host := "PoliteGatherer") X.1.1 X.1.2.1 X.1.2.2.2.2 uin_Gat X.1.2.2.2.1 X.2.1 rfl (by decide) (va_Nw.use rfl (X.2.2.2.1 _ (gN_in (List.mem_append_right _ q96) rfl))) (fun _ h => h) (fun _ => rfl) hW (by omega) (fun σ τ => ge_5 rfl σ τ) hdg kk
theorem gf_PG_134 (X : gcx g A p s m args c cc nL R_PG) (hW : gW g A ad np u v H) (hdg : decode cc pc = .ok (.getfield 134, 3)) (kk : W p l e R s m args below meth c H locs cells slots Q (F0 m (pc + 3) ls (.ref (ad (31)) :: rest))) : W p l e R s m args below meth c H locs cells slots Q (F0 m pc ls (.ref (ad 24) :: rest)) := gy_grN (t := 31) (C := R_Gat) (T := F_Gat) (N := 17) (ci := 5) (fs := gf5 ad) (own := R_PG) (ref := R_Gat) (index := 134) (j := 4) (host := "PoliteGatherer") X.1.1 X.1.2.1 X.1.2.2.2.2 uin_Gat X.1.2.2.2.1 X.2.1 rfl (by decide) (va_Nw.use rfl (X.2.2.2.1 _ (gN_in (List.mem_append_right _ q97) rfl))) (fun _ h => h) (fun _ => rfl) hW (by omega) (fun σ τ => ge_5 rfl σ τ) hdg kk
theorem gf_Gat_33 (X : gcx g A p s m args c cc nL R_Gat) (hW : gW g A ad np u v H) (hdg : decode cc pc = .ok (.getfield 33, 3)) (kk : W p l e R s m args below meth c H locs cells slots Q (F0 m (pc + 3) ls (.ref (ad (33)) :: rest))) : W p l e R s m args below meth c H locs cells slots Q (F0 m pc ls (.ref (ad 24) :: rest)) := gy_gr (t := 33) (C := R_Gat) (T := F_Gat) (N := 17) (ci := 5) (fs := gf5 ad) (own := R_Gat) (ref := R_Gat) (index := 33) (j := 5) X.1.1 X.1.2.1 X.1.2.2.2.2 uin_Gat X.1.2.2.2.1 X.2.1 rfl (by decide) (X.1.2.2.2.2 _ (gWG_in (List.mem_append_right _ q98) rfl)) (fun _ h => h) (fun _ => rfl) hW (by omega) (fun σ τ => ge_5 rfl σ τ) hdg kk
theorem gf_Gat_37 {q : Nat × Nat × Nat} {z : Int32} (X : gcx g A p s m args c cc nL R_Gat) (hW : gW g A ad np u v H) (hq : gv np q) (hg : gi q = (24, 6)) (hz : gr u v q = z) (hdg : decode cc pc = .ok (.getfield 37, 3)) (kk : W p l e R s m args below meth c H locs cells slots Q (F0 m (pc + 3) ls (.int z :: rest))) : W p l e R s m args below meth c H locs cells slots Q (F0 m pc ls (.ref (ad 24) :: rest)) := gy_gi (C := R_Gat) (T := F_Gat) (N := 17) (ci := 5) (fs := gf5 ad) (own := R_Gat) (ref := R_Gat) (index := 37) (j := 6) X.1.1 X.1.2.1 X.1.2.2.2.2 uin_Gat X.1.2.2.2.1 X.2.1 rfl (by decide) (X.1.2.2.2.2 _ (gWG_in (List.mem_append_right _ q99) rfl)) (fun _ h => h) (fun _ => rfl) hW (by omega) (fun σ τ => ge_5 rfl σ τ) hq hg hz hdg kk
theorem pf_Gat_37 {q : Nat × Nat × Nat} {z : Int32} (X : gcx g A p s m args c cc nL R_Gat) (hW : gW g A ad np u v H) (hS : va_S A s.heap H locs) (hq : gv np q) (hg : gi q = (24, 6)) (hn : narrow (.int) (.int z) = .int z) (hfit : fits (.int) (.int z) = true) (hdg : decode cc pc = .ok (.putfield 37, 3)) (kk : ∀ (H1 : Heap) (locs1 : List Loc), gW g A ad np (gx u v q z).1 (gx u v q z).2 H1 → va_S A s.heap H1 locs1 → W p l e R s m args below meth c H1 locs1 cells slots Q (F0 m (pc + 3) ls rest)) : W p l e R s m args below meth c H locs cells slots Q (F0 m pc ls (.int z :: .ref (ad 24) :: rest)) := gy_pi (C := R_Gat) (T := F_Gat) (N := 17) (ci := 5) (fs := gf5 ad) (own := R_Gat) (ref := R_Gat) (index := 37) (j := 6) (ty := .int) X.1.1 X.1.2.1 X.1.2.2.2.2 uin_Gat t_Gat t_Gat_ok n_Gat X.1.2.2.2.1 X.2.1 rfl (by decide) (X.1.2.2.2.2 _ (gWG_in (List.mem_append_right _ q99) rfl)) (fun _ h => h) rfl rfl (fun _ => (by show 6 < 17; decide)) (fun r x => rfl) hW hS (by omega) (fun σ τ => ge_5 rfl σ τ) hq hg hn hfit hdg kk
theorem gf_Gat_41 {q : Nat × Nat × Nat} {z : Int32} (X : gcx g A p s m args c cc nL R_Gat) (hW : gW g A ad np u v H) (hq : gv np q) (hg : gi q = (24, 7)) (hz : gr u v q = z) (hdg : decode cc pc = .ok (.getfield 41, 3)) (kk : W p l e R s m args below meth c H locs cells slots Q (F0 m (pc + 3) ls (.int z :: rest))) : W p l e R s m args below meth c H locs cells slots Q (F0 m pc ls (.ref (ad 24) :: rest)) := gy_gi (C := R_Gat) (T := F_Gat) (N := 17) (ci := 5) (fs := gf5 ad) (own := R_Gat) (ref := R_Gat) (index := 41) (j := 7) X.1.1 X.1.2.1 X.1.2.2.2.2 uin_Gat X.1.2.2.2.1 X.2.1 rfl (by decide) (X.1.2.2.2.2 _ (gWG_in (List.mem_append_right _ q100) rfl)) (fun _ h => h) (fun _ => rfl) hW (by omega) (fun σ τ => ge_5 rfl σ τ) hq hg hz hdg kk
theorem pf_Gat_41 {q : Nat × Nat × Nat} {z : Int32} (X : gcx g A p s m args c cc nL R_Gat) (hW : gW g A ad np u v H) (hS : va_S A s.heap H locs) (hq : gv np q) (hg : gi q = (24, 7)) (hn : narrow (.int) (.int z) = .int z) (hfit : fits (.int) (.int z) = true) (hdg : decode cc pc = .ok (.putfield 41, 3)) (kk : ∀ (H1 : Heap) (locs1 : List Loc), gW g A ad np (gx u v q z).1 (gx u v q z).2 H1 → va_S A s.heap H1 locs1 → W p l e R s m args below meth c H1 locs1 cells slots Q (F0 m (pc + 3) ls rest)) : W p l e R s m args below meth c H locs cells slots Q (F0 m pc ls (.int z :: .ref (ad 24) :: rest)) := gy_pi (C := R_Gat) (T := F_Gat) (N := 17) (ci := 5) (fs := gf5 ad) (own := R_Gat) (ref := R_Gat) (index := 41) (j := 7) (ty := .int) X.1.1 X.1.2.1 X.1.2.2.2.2 uin_Gat t_Gat t_Gat_ok n_Gat X.1.2.2.2.1 X.2.1 rfl (by decide) (X.1.2.2.2.2 _ (gWG_in (List.mem_append_right _ q100) rfl)) (fun _ h => h) rfl rfl (fun _ => (by show 7 < 17; decide)) (fun r x => rfl) hW hS (by omega) (fun σ τ => ge_5 rfl σ τ) hq hg hn hfit hdg kk
theorem gf_Gat_44 {q : Nat × Nat × Nat} {z : Int32} (X : gcx g A p s m args c cc nL R_Gat) (hW : gW g A ad np u v H) (hq : gv np q) (hg : gi q = (24, 8)) (hz : gr u v q = z) (hdg : decode cc pc = .ok (.getfield 44, 3)) (kk : W p l e R s m args below meth c H locs cells slots Q (F0 m (pc + 3) ls (.int z :: rest))) : W p l e R s m args below meth c H locs cells slots Q (F0 m pc ls (.ref (ad 24) :: rest)) := gy_gi (C := R_Gat) (T := F_Gat) (N := 17) (ci := 5) (fs := gf5 ad) (own := R_Gat) (ref := R_Gat) (index := 44) (j := 8) X.1.1 X.1.2.1 X.1.2.2.2.2 uin_Gat X.1.2.2.2.1 X.2.1 rfl (by decide) (X.1.2.2.2.2 _ (gWG_in (List.mem_append_right _ q101) rfl)) (fun _ h => h) (fun _ => rfl) hW (by omega) (fun σ τ => ge_5 rfl σ τ) hq hg hz hdg kk
theorem pf_Gat_44 {q : Nat × Nat × Nat} {z : Int32} (X : gcx g A p s m args c cc nL R_Gat) (hW : gW g A ad np u v H) (hS : va_S A s.heap H locs) (hq : gv np q) (hg : gi q = (24, 8)) (hn : narrow (.int) (.int z) = .int z) (hfit : fits (.int) (.int z) = true) (hdg : decode cc pc = .ok (.putfield 44, 3)) (kk : ∀ (H1 : Heap) (locs1 : List Loc), gW g A ad np (gx u v q z).1 (gx u v q z).2 H1 → va_S A s.heap H1 locs1 → W p l e R s m args below meth c H1 locs1 cells slots Q (F0 m (pc + 3) ls rest)) : W p l e R s m args below meth c H locs cells slots Q (F0 m pc ls (.int z :: .ref (ad 24) :: rest)) := gy_pi (C := R_Gat) (T := F_Gat) (N := 17) (ci := 5) (fs := gf5 ad) (own := R_Gat) (ref := R_Gat) (index := 44) (j := 8) (ty := .int) X.1.1 X.1.2.1 X.1.2.2.2.2 uin_Gat t_Gat t_Gat_ok n_Gat X.1.2.2.2.1 X.2.1 rfl (by decide) (X.1.2.2.2.2 _ (gWG_in (List.mem_append_right _ q101) rfl)) (fun _ h => h) rfl rfl (fun _ => (by show 8 < 17; decide)) (fun r x => rfl) hW hS (by omega) (fun σ τ => ge_5 rfl σ τ) hq hg hn hfit hdg kk
theorem gf_Gat_47 {q : Nat × Nat × Nat} {z : Int32} (X : gcx g A p s m args c cc nL R_Gat) (hW : gW g A ad np u v H) (hq : gv np q) (hg : gi q = (24, 9)) (hz : gr u v q = z) (hdg : decode cc pc = .ok (.getfield 47, 3)) (kk : W p l e R s m args below meth c H locs cells slots Q (F0 m (pc + 3) ls (.int z :: rest))) : W p l e R s m args below meth c H locs cells slots Q (F0 m pc ls (.ref (ad 24) :: rest)) := gy_gi (C := R_Gat) (T := F_Gat) (N := 17) (ci := 5) (fs := gf5 ad) (own := R_Gat) (ref := R_Gat) (index := 47) (j := 9) X.1.1 X.1.2.1 X.1.2.2.2.2 uin_Gat X.1.2.2.2.1 X.2.1 rfl (by decide) (X.1.2.2.2.2 _ (gWG_in (List.mem_append_right _ q102) rfl)) (fun _ h => h) (fun _ => rfl) hW (by omega) (fun σ τ => ge_5 rfl σ τ) hq hg hz hdg kk
theorem pf_Gat_47 {q : Nat × Nat × Nat} {z : Int32} (X : gcx g A p s m args c cc nL R_Gat) (hW : gW g A ad np u v H) (hS : va_S A s.heap H locs) (hq : gv np q) (hg : gi q = (24, 9)) (hn : narrow (.int) (.int z) = .int z) (hfit : fits (.int) (.int z) = true) (hdg : decode cc pc = .ok (.putfield 47, 3)) (kk : ∀ (H1 : Heap) (locs1 : List Loc), gW g A ad np (gx u v q z).1 (gx u v q z).2 H1 → va_S A s.heap H1 locs1 → W p l e R s m args below meth c H1 locs1 cells slots Q (F0 m (pc + 3) ls rest)) : W p l e R s m args below meth c H locs cells slots Q (F0 m pc ls (.int z :: .ref (ad 24) :: rest)) := gy_pi (C := R_Gat) (T := F_Gat) (N := 17) (ci := 5) (fs := gf5 ad) (own := R_Gat) (ref := R_Gat) (index := 47) (j := 9) (ty := .int) X.1.1 X.1.2.1 X.1.2.2.2.2 uin_Gat t_Gat t_Gat_ok n_Gat X.1.2.2.2.1 X.2.1 rfl (by decide) (X.1.2.2.2.2 _ (gWG_in (List.mem_append_right _ q102) rfl)) (fun _ h => h) rfl rfl (fun _ => (by show 9 < 17; decide)) (fun r x => rfl) hW hS (by omega) (fun σ τ => ge_5 rfl σ τ) hq hg hn hfit hdg kk
theorem gf_Gat_53 {q : Nat × Nat × Nat} {z : Int32} (X : gcx g A p s m args c cc nL R_Gat) (hW : gW g A ad np u v H) (hq : gv np q) (hg : gi q = (24, 10)) (hz : gr u v q = z) (hdg : decode cc pc = .ok (.getfield 53, 3)) (kk : W p l e R s m args below meth c H locs cells slots Q (F0 m (pc + 3) ls (.int z :: rest))) : W p l e R s m args below meth c H locs cells slots Q (F0 m pc ls (.ref (ad 24) :: rest)) := gy_gi (C := R_Gat) (T := F_Gat) (N := 17) (ci := 5) (fs := gf5 ad) (own := R_Gat) (ref := R_Gat) (index := 53) (j := 10) X.1.1 X.1.2.1 X.1.2.2.2.2 uin_Gat X.1.2.2.2.1 X.2.1 rfl (by decide) (X.1.2.2.2.2 _ (gWG_in (List.mem_append_right _ q103) rfl)) (fun _ h => h) (fun _ => rfl) hW (by omega) (fun σ τ => ge_5 rfl σ τ) hq hg hz hdg kk
theorem pf_Gat_53 {q : Nat × Nat × Nat} {z : Int32} (X : gcx g A p s m args c cc nL R_Gat) (hW : gW g A ad np u v H) (hS : va_S A s.heap H locs) (hq : gv np q) (hg : gi q = (24, 10)) (hn : narrow (.int) (.int z) = .int z) (hfit : fits (.int) (.int z) = true) (hdg : decode cc pc = .ok (.putfield 53, 3)) (kk : ∀ (H1 : Heap) (locs1 : List Loc), gW g A ad np (gx u v q z).1 (gx u v q z).2 H1 → va_S A s.heap H1 locs1 → W p l e R s m args below meth c H1 locs1 cells slots Q (F0 m (pc + 3) ls rest)) : W p l e R s m args below meth c H locs cells slots Q (F0 m pc ls (.int z :: .ref (ad 24) :: rest)) := gy_pi (C := R_Gat) (T := F_Gat) (N := 17) (ci := 5) (fs := gf5 ad) (own := R_Gat) (ref := R_Gat) (index := 53) (j := 10) (ty := .int) X.1.1 X.1.2.1 X.1.2.2.2.2 uin_Gat t_Gat t_Gat_ok n_Gat X.1.2.2.2.1 X.2.1 rfl (by decide) (X.1.2.2.2.2 _ (gWG_in (List.mem_append_right _ q103) rfl)) (fun _ h => h) rfl rfl (fun _ => (by show 10 < 17; decide)) (fun r x => rfl) hW hS (by omega) (fun σ τ => ge_5 rfl σ τ) hq hg hn hfit hdg kk
theorem gf_Gat_56 {q : Nat × Nat × Nat} {z : Int32} (X : gcx g A p s m args c cc nL R_Gat) (hW : gW g A ad np u v H) (hq : gv np q) (hg : gi q = (24, 11)) (hz : gr u v q = z) (hdg : decode cc pc = .ok (.getfield 56, 3)) (kk : W p l e R s m args below meth c H locs cells slots Q (F0 m (pc + 3) ls (.int z :: rest))) : W p l e R s m args below meth c H locs cells slots Q (F0 m pc ls (.ref (ad 24) :: rest)) := gy_gi (C := R_Gat) (T := F_Gat) (N := 17) (ci := 5) (fs := gf5 ad) (own := R_Gat) (ref := R_Gat) (index := 56) (j := 11) X.1.1 X.1.2.1 X.1.2.2.2.2 uin_Gat X.1.2.2.2.1 X.2.1 rfl (by decide) (X.1.2.2.2.2 _ (gWG_in (List.mem_append_right _ q104) rfl)) (fun _ h => h) (fun _ => rfl) hW (by omega) (fun σ τ => ge_5 rfl σ τ) hq hg hz hdg kk
theorem pf_Gat_56 {q : Nat × Nat × Nat} {z : Int32} (X : gcx g A p s m args c cc nL R_Gat) (hW : gW g A ad np u v H) (hS : va_S A s.heap H locs) (hq : gv np q) (hg : gi q = (24, 11)) (hn : narrow (.int) (.int z) = .int z) (hfit : fits (.int) (.int z) = true) (hdg : decode cc pc = .ok (.putfield 56, 3)) (kk : ∀ (H1 : Heap) (locs1 : List Loc), gW g A ad np (gx u v q z).1 (gx u v q z).2 H1 → va_S A s.heap H1 locs1 → W p l e R s m args below meth c H1 locs1 cells slots Q (F0 m (pc + 3) ls rest)) : W p l e R s m args below meth c H locs cells slots Q (F0 m pc ls (.int z :: .ref (ad 24) :: rest)) := gy_pi (C := R_Gat) (T := F_Gat) (N := 17) (ci := 5) (fs := gf5 ad) (own := R_Gat) (ref := R_Gat) (index := 56) (j := 11) (ty := .int) X.1.1 X.1.2.1 X.1.2.2.2.2 uin_Gat t_Gat t_Gat_ok n_Gat X.1.2.2.2.1 X.2.1 rfl (by decide) (X.1.2.2.2.2 _ (gWG_in (List.mem_append_right _ q104) rfl)) (fun _ h => h) rfl rfl (fun _ => (by show 11 < 17; decide)) (fun r x => rfl) hW hS (by omega) (fun σ τ => ge_5 rfl σ τ) hq hg hn hfit hdg kk
theorem gf_PG_131 {q : Nat × Nat × Nat} {z : Int32} (X : gcx g A p s m args c cc nL R_PG) (hW : gW g A ad np u v H) (hq : gv np q) (hg : gi q = (24, 11)) (hz : gr u v q = z) (hdg : decode cc pc = .ok (.getfield 131, 3)) (kk : W p l e R s m args below meth c H locs cells slots Q (F0 m (pc + 3) ls (.int z :: rest))) : W p l e R s m args below meth c H locs cells slots Q (F0 m pc ls (.ref (ad 24) :: rest)) := gy_giN (C := R_Gat) (T := F_Gat) (N := 17) (ci := 5) (fs := gf5 ad) (own := R_PG) (ref := R_Gat) (index := 131) (j := 11) (host := "PoliteGatherer") X.1.1 X.1.2.1 X.1.2.2.2.2 uin_Gat X.1.2.2.2.1 X.2.1 rfl (by decide) (va_Nw.use rfl (X.2.2.2.1 _ (gN_in (List.mem_append_right _ q105) rfl))) (fun _ h => h) (fun _ => rfl) hW (by omega) (fun σ τ => ge_5 rfl σ τ) hq hg hz hdg kk
theorem gf_Gat_59 {q : Nat × Nat × Nat} {z : Int32} (X : gcx g A p s m args c cc nL R_Gat) (hW : gW g A ad np u v H) (hq : gv np q) (hg : gi q = (24, 12)) (hz : gr u v q = z) (hdg : decode cc pc = .ok (.getfield 59, 3)) (kk : W p l e R s m args below meth c H locs cells slots Q (F0 m (pc + 3) ls (.int z :: rest))) : W p l e R s m args below meth c H locs cells slots Q (F0 m pc ls (.ref (ad 24) :: rest)) := gy_gi (C := R_Gat) (T := F_Gat) (N := 17) (ci := 5) (fs := gf5 ad) (own := R_Gat) (ref := R_Gat) (index := 59) (j := 12) X.1.1 X.1.2.1 X.1.2.2.2.2 uin_Gat X.1.2.2.2.1 X.2.1 rfl (by decide) (X.1.2.2.2.2 _ (gWG_in (List.mem_append_right _ q106) rfl)) (fun _ h => h) (fun _ => rfl) hW (by omega) (fun σ τ => ge_5 rfl σ τ) hq hg hz hdg kk
theorem pf_Gat_59 {q : Nat × Nat × Nat} {z : Int32} (X : gcx g A p s m args c cc nL R_Gat) (hW : gW g A ad np u v H) (hS : va_S A s.heap H locs) (hq : gv np q) (hg : gi q = (24, 12)) (hn : narrow (.int) (.int z) = .int z) (hfit : fits (.int) (.int z) = true) (hdg : decode cc pc = .ok (.putfield 59, 3)) (kk : ∀ (H1 : Heap) (locs1 : List Loc), gW g A ad np (gx u v q z).1 (gx u v q z).2 H1 → va_S A s.heap H1 locs1 → W p l e R s m args below meth c H1 locs1 cells slots Q (F0 m (pc + 3) ls rest)) : W p l e R s m args below meth c H locs cells slots Q (F0 m pc ls (.int z :: .ref (ad 24) :: rest)) := gy_pi (C := R_Gat) (T := F_Gat) (N := 17) (ci := 5) (fs := gf5 ad) (own := R_Gat) (ref := R_Gat) (index := 59) (j := 12) (ty := .int) X.1.1 X.1.2.1 X.1.2.2.2.2 uin_Gat t_Gat t_Gat_ok n_Gat X.1.2.2.2.1 X.2.1 rfl (by decide) (X.1.2.2.2.2 _ (gWG_in (List.mem_append_right _ q106) rfl)) (fun _ h => h) rfl rfl (fun _ => (by show 12 < 17; decide)) (fun r x => rfl) hW hS (by omega) (fun σ τ => ge_5 rfl σ τ) hq hg hn hfit hdg kk
theorem gf_PG_111 {q : Nat × Nat × Nat} {z : Int32} (X : gcx g A p s m args c cc nL R_PG) (hW : gW g A ad np u v H) (hq : gv np q) (hg : gi q = (24, 12)) (hz : gr u v q = z) (hdg : decode cc pc = .ok (.getfield 111, 3)) (kk : W p l e R s m args below meth c H locs cells slots Q (F0 m (pc + 3) ls (.int z :: rest))) : W p l e R s m args below meth c H locs cells slots Q (F0 m pc ls (.ref (ad 24) :: rest)) := gy_giN (C := R_Gat) (T := F_Gat) (N := 17) (ci := 5) (fs := gf5 ad) (own := R_PG) (ref := R_Gat) (index := 111) (j := 12) (host := "PoliteGatherer") X.1.1 X.1.2.1 X.1.2.2.2.2 uin_Gat X.1.2.2.2.1 X.2.1 rfl (by decide) (va_Nw.use rfl (X.2.2.2.1 _ (gN_in (List.mem_append_right _ q107) rfl))) (fun _ h => h) (fun _ => rfl) hW (by omega) (fun σ τ => ge_5 rfl σ τ) hq hg hz hdg kk
theorem gf_Gat_104 {q : Nat × Nat × Nat} {z : Int32} (X : gcx g A p s m args c cc nL R_Gat) (hW : gW g A ad np u v H) (hq : gv np q) (hg : gi q = (24, 13)) (hz : gr u v q = z) (hdg : decode cc pc = .ok (.getfield 104, 3)) (kk : W p l e R s m args below meth c H locs cells slots Q (F0 m (pc + 3) ls (.int z :: rest))) : W p l e R s m args below meth c H locs cells slots Q (F0 m pc ls (.ref (ad 24) :: rest)) := gy_gi (C := R_Gat) (T := F_Gat) (N := 17) (ci := 5) (fs := gf5 ad) (own := R_Gat) (ref := R_Gat) (index := 104) (j := 13) X.1.1 X.1.2.1 X.1.2.2.2.2 uin_Gat X.1.2.2.2.1 X.2.1 rfl (by decide) (X.1.2.2.2.2 _ (gWG_in (List.mem_append_right _ q108) rfl)) (fun _ h => h) (fun _ => rfl) hW (by omega) (fun σ τ => ge_5 rfl σ τ) hq hg hz hdg kk
theorem pf_Gat_104 {q : Nat × Nat × Nat} {z : Int32} (X : gcx g A p s m args c cc nL R_Gat) (hW : gW g A ad np u v H) (hS : va_S A s.heap H locs) (hq : gv np q) (hg : gi q = (24, 13)) (hn : narrow (.int) (.int z) = .int z) (hfit : fits (.int) (.int z) = true) (hdg : decode cc pc = .ok (.putfield 104, 3)) (kk : ∀ (H1 : Heap) (locs1 : List Loc), gW g A ad np (gx u v q z).1 (gx u v q z).2 H1 → va_S A s.heap H1 locs1 → W p l e R s m args below meth c H1 locs1 cells slots Q (F0 m (pc + 3) ls rest)) : W p l e R s m args below meth c H locs cells slots Q (F0 m pc ls (.int z :: .ref (ad 24) :: rest)) := gy_pi (C := R_Gat) (T := F_Gat) (N := 17) (ci := 5) (fs := gf5 ad) (own := R_Gat) (ref := R_Gat) (index := 104) (j := 13) (ty := .int) X.1.1 X.1.2.1 X.1.2.2.2.2 uin_Gat t_Gat t_Gat_ok n_Gat X.1.2.2.2.1 X.2.1 rfl (by decide) (X.1.2.2.2.2 _ (gWG_in (List.mem_append_right _ q108) rfl)) (fun _ h => h) rfl rfl (fun _ => (by show 13 < 17; decide)) (fun r x => rfl) hW hS (by omega) (fun σ τ => ge_5 rfl σ τ) hq hg hn hfit hdg kk
theorem gf_Gat_128 {q : Nat × Nat × Nat} {z : Int32} (X : gcx g A p s m args c cc nL R_Gat) (hW : gW g A ad np u v H) (hq : gv np q) (hg : gi q = (24, 14)) (hz : gr u v q = z) (hdg : decode cc pc = .ok (.getfield 128, 3)) (kk : W p l e R s m args below meth c H locs cells slots Q (F0 m (pc + 3) ls (.int z :: rest))) : W p l e R s m args below meth c H locs cells slots Q (F0 m pc ls (.ref (ad 24) :: rest)) := gy_gi (C := R_Gat) (T := F_Gat) (N := 17) (ci := 5) (fs := gf5 ad) (own := R_Gat) (ref := R_Gat) (index := 128) (j := 14) X.1.1 X.1.2.1 X.1.2.2.2.2 uin_Gat X.1.2.2.2.1 X.2.1 rfl (by decide) (X.1.2.2.2.2 _ (gWG_in (List.mem_append_right _ q109) rfl)) (fun _ h => h) (fun _ => rfl) hW (by omega) (fun σ τ => ge_5 rfl σ τ) hq hg hz hdg kk
theorem pf_Gat_128 {q : Nat × Nat × Nat} {z : Int32} (X : gcx g A p s m args c cc nL R_Gat) (hW : gW g A ad np u v H) (hS : va_S A s.heap H locs) (hq : gv np q) (hg : gi q = (24, 14)) (hn : narrow (.int) (.int z) = .int z) (hfit : fits (.int) (.int z) = true) (hdg : decode cc pc = .ok (.putfield 128, 3)) (kk : ∀ (H1 : Heap) (locs1 : List Loc), gW g A ad np (gx u v q z).1 (gx u v q z).2 H1 → va_S A s.heap H1 locs1 → W p l e R s m args below meth c H1 locs1 cells slots Q (F0 m (pc + 3) ls rest)) : W p l e R s m args below meth c H locs cells slots Q (F0 m pc ls (.int z :: .ref (ad 24) :: rest)) := gy_pi (C := R_Gat) (T := F_Gat) (N := 17) (ci := 5) (fs := gf5 ad) (own := R_Gat) (ref := R_Gat) (index := 128) (j := 14) (ty := .int) X.1.1 X.1.2.1 X.1.2.2.2.2 uin_Gat t_Gat t_Gat_ok n_Gat X.1.2.2.2.1 X.2.1 rfl (by decide) (X.1.2.2.2.2 _ (gWG_in (List.mem_append_right _ q109) rfl)) (fun _ h => h) rfl rfl (fun _ => (by show 14 < 17; decide)) (fun r x => rfl) hW hS (by omega) (fun σ τ => ge_5 rfl σ τ) hq hg hn hfit hdg kk
theorem gf_Gat_131 {q : Nat × Nat × Nat} {z : Int32} (X : gcx g A p s m args c cc nL R_Gat) (hW : gW g A ad np u v H) (hq : gv np q) (hg : gi q = (24, 15)) (hz : gr u v q = z) (hdg : decode cc pc = .ok (.getfield 131, 3)) (kk : W p l e R s m args below meth c H locs cells slots Q (F0 m (pc + 3) ls (.int z :: rest))) : W p l e R s m args below meth c H locs cells slots Q (F0 m pc ls (.ref (ad 24) :: rest)) := gy_gi (C := R_Gat) (T := F_Gat) (N := 17) (ci := 5) (fs := gf5 ad) (own := R_Gat) (ref := R_Gat) (index := 131) (j := 15) X.1.1 X.1.2.1 X.1.2.2.2.2 uin_Gat X.1.2.2.2.1 X.2.1 rfl (by decide) (X.1.2.2.2.2 _ (gWG_in (List.mem_append_right _ q110) rfl)) (fun _ h => h) (fun _ => rfl) hW (by omega) (fun σ τ => ge_5 rfl σ τ) hq hg hz hdg kk
theorem pf_Gat_131 {q : Nat × Nat × Nat} {z : Int32} (X : gcx g A p s m args c cc nL R_Gat) (hW : gW g A ad np u v H) (hS : va_S A s.heap H locs) (hq : gv np q) (hg : gi q = (24, 15)) (hn : narrow (.int) (.int z) = .int z) (hfit : fits (.int) (.int z) = true) (hdg : decode cc pc = .ok (.putfield 131, 3)) (kk : ∀ (H1 : Heap) (locs1 : List Loc), gW g A ad np (gx u v q z).1 (gx u v q z).2 H1 → va_S A s.heap H1 locs1 → W p l e R s m args below meth c H1 locs1 cells slots Q (F0 m (pc + 3) ls rest)) : W p l e R s m args below meth c H locs cells slots Q (F0 m pc ls (.int z :: .ref (ad 24) :: rest)) := gy_pi (C := R_Gat) (T := F_Gat) (N := 17) (ci := 5) (fs := gf5 ad) (own := R_Gat) (ref := R_Gat) (index := 131) (j := 15) (ty := .int) X.1.1 X.1.2.1 X.1.2.2.2.2 uin_Gat t_Gat t_Gat_ok n_Gat X.1.2.2.2.1 X.2.1 rfl (by decide) (X.1.2.2.2.2 _ (gWG_in (List.mem_append_right _ q110) rfl)) (fun _ h => h) rfl rfl (fun _ => (by show 15 < 17; decide)) (fun r x => rfl) hW hS (by omega) (fun σ τ => ge_5 rfl σ τ) hq hg hn hfit hdg kk
theorem gf_Gat_134 {q : Nat × Nat × Nat} {z : Int32} (X : gcx g A p s m args c cc nL R_Gat) (hW : gW g A ad np u v H) (hq : gv np q) (hg : gi q = (24, 16)) (hz : gr u v q = z) (hdg : decode cc pc = .ok (.getfield 134, 3)) (kk : W p l e R s m args below meth c H locs cells slots Q (F0 m (pc + 3) ls (.int z :: rest))) : W p l e R s m args below meth c H locs cells slots Q (F0 m pc ls (.ref (ad 24) :: rest)) := gy_gi (C := R_Gat) (T := F_Gat) (N := 17) (ci := 5) (fs := gf5 ad) (own := R_Gat) (ref := R_Gat) (index := 134) (j := 16) X.1.1 X.1.2.1 X.1.2.2.2.2 uin_Gat X.1.2.2.2.1 X.2.1 rfl (by decide) (X.1.2.2.2.2 _ (gWG_in (List.mem_append_right _ q111) rfl)) (fun _ h => h) (fun _ => rfl) hW (by omega) (fun σ τ => ge_5 rfl σ τ) hq hg hz hdg kk
theorem pf_Gat_134 {q : Nat × Nat × Nat} {z : Int32} (X : gcx g A p s m args c cc nL R_Gat) (hW : gW g A ad np u v H) (hS : va_S A s.heap H locs) (hq : gv np q) (hg : gi q = (24, 16)) (hn : narrow (.int) (.int z) = .int z) (hfit : fits (.int) (.int z) = true) (hdg : decode cc pc = .ok (.putfield 134, 3)) (kk : ∀ (H1 : Heap) (locs1 : List Loc), gW g A ad np (gx u v q z).1 (gx u v q z).2 H1 → va_S A s.heap H1 locs1 → W p l e R s m args below meth c H1 locs1 cells slots Q (F0 m (pc + 3) ls rest)) : W p l e R s m args below meth c H locs cells slots Q (F0 m pc ls (.int z :: .ref (ad 24) :: rest)) := gy_pi (C := R_Gat) (T := F_Gat) (N := 17) (ci := 5) (fs := gf5 ad) (own := R_Gat) (ref := R_Gat) (index := 134) (j := 16) (ty := .int) X.1.1 X.1.2.1 X.1.2.2.2.2 uin_Gat t_Gat t_Gat_ok n_Gat X.1.2.2.2.1 X.2.1 rfl (by decide) (X.1.2.2.2.2 _ (gWG_in (List.mem_append_right _ q111) rfl)) (fun _ h => h) rfl rfl (fun _ => (by show 16 < 17; decide)) (fun r x => rfl) hW hS (by omega) (fun σ τ => ge_5 rfl σ τ) hq hg hn hfit hdg kk
theorem gf_Rank_9 (X : gcx g A p s m args c cc nL R_Rank) (hW : gW g A ad np u v H) (hdg : decode cc pc = .ok (.getfield 9, 3)) (kk : W p l e R s m args below meth c H locs cells slots Q (F0 m (pc + 3) ls (.ref (ad (1)) :: rest))) : W p l e R s m args below meth c H locs cells slots Q (F0 m pc ls (.ref (ad 34) :: rest)) := gy_gr (t := 1) (C := R_Rank) (T := F_Rank) (N := 8) (ci := 6) (fs := fun _ => gf6 ad) (own := R_Rank) (ref := R_Rank) (index := 9) (j := 0) X.1.1 X.1.2.1 X.1.2.2.2.2 uin_Rank X.1.2.2.2.1 X.2.1 rfl (by decide) (X.1.2.2.2.2 _ (gWG_in (List.mem_append_right _ q157) rfl)) (fun _ h => h) (fun _ => rfl) hW (by omega) (fun σ τ => ge_6 rfl σ τ) hdg kk
theorem gf_Rank_15 (X : gcx g A p s m args c cc nL R_Rank) (hW : gW g A ad np u v H) (hdg : decode cc pc = .ok (.getfield 15, 3)) (kk : W p l e R s m args below meth c H locs cells slots Q (F0 m (pc + 3) ls (.ref (ad (24)) :: rest))) : W p l e R s m args below meth c H locs cells slots Q (F0 m pc ls (.ref (ad 34) :: rest)) := gy_gr (t := 24) (C := R_Rank) (T := F_Rank) (N := 8) (ci := 6) (fs := fun _ => gf6 ad) (own := R_Rank) (ref := R_Rank) (index := 15) (j := 1) X.1.1 X.1.2.1 X.1.2.2.2.2 uin_Rank X.1.2.2.2.1 X.2.1 rfl (by decide) (X.1.2.2.2.2 _ (gWG_in (List.mem_append_right _ q158) rfl)) (fun _ h => h) (fun _ => rfl) hW (by omega) (fun σ τ => ge_6 rfl σ τ) hdg kk
theorem gf_Rank_24 (X : gcx g A p s m args c cc nL R_Rank) (hW : gW g A ad np u v H) (hdg : decode cc pc = .ok (.getfield 24, 3)) (kk : W p l e R s m args below meth c H locs cells slots Q (F0 m (pc + 3) ls (.ref (ad (35)) :: rest))) : W p l e R s m args below meth c H locs cells slots Q (F0 m pc ls (.ref (ad 34) :: rest)) := gy_gr (t := 35) (C := R_Rank) (T := F_Rank) (N := 8) (ci := 6) (fs := fun _ => gf6 ad) (own := R_Rank) (ref := R_Rank) (index := 24) (j := 2) X.1.1 X.1.2.1 X.1.2.2.2.2 uin_Rank X.1.2.2.2.1 X.2.1 rfl (by decide) (X.1.2.2.2.2 _ (gWG_in (List.mem_append_right _ q159) rfl)) (fun _ h => h) (fun _ => rfl) hW (by omega) (fun σ τ => ge_6 rfl σ τ) hdg kk
theorem gf_Rank_30 (X : gcx g A p s m args c cc nL R_Rank) (hW : gW g A ad np u v H) (hdg : decode cc pc = .ok (.getfield 30, 3)) (kk : W p l e R s m args below meth c H locs cells slots Q (F0 m (pc + 3) ls (.ref (ad (37)) :: rest))) : W p l e R s m args below meth c H locs cells slots Q (F0 m pc ls (.ref (ad 34) :: rest)) := gy_gr (t := 37) (C := R_Rank) (T := F_Rank) (N := 8) (ci := 6) (fs := fun _ => gf6 ad) (own := R_Rank) (ref := R_Rank) (index := 30) (j := 3) X.1.1 X.1.2.1 X.1.2.2.2.2 uin_Rank X.1.2.2.2.1 X.2.1 rfl (by decide) (X.1.2.2.2.2 _ (gWG_in (List.mem_append_right _ q160) rfl)) (fun _ h => h) (fun _ => rfl) hW (by omega) (fun σ τ => ge_6 rfl σ τ) hdg kk
theorem gf_Rank_33 (X : gcx g A p s m args c cc nL R_Rank) (hW : gW g A ad np u v H) (hdg : decode cc pc = .ok (.getfield 33, 3)) (kk : W p l e R s m args below meth c H locs cells slots Q (F0 m (pc + 3) ls (.ref (ad (70)) :: rest))) : W p l e R s m args below meth c H locs cells slots Q (F0 m pc ls (.ref (ad 34) :: rest)) := gy_gr (t := 70) (C := R_Rank) (T := F_Rank) (N := 8) (ci := 6) (fs := fun _ => gf6 ad) (own := R_Rank) (ref := R_Rank) (index := 33) (j := 4) X.1.1 X.1.2.1 X.1.2.2.2.2 uin_Rank X.1.2.2.2.1 X.2.1 rfl (by decide) (X.1.2.2.2.2 _ (gWG_in (List.mem_append_right _ q161) rfl)) (fun _ h => h) (fun _ => rfl) hW (by omega) (fun σ τ => ge_6 rfl σ τ) hdg kk
theorem gf_Rank_37 (X : gcx g A p s m args c cc nL R_Rank) (hW : gW g A ad np u v H) (hdg : decode cc pc = .ok (.getfield 37, 3)) (kk : W p l e R s m args below meth c H locs cells slots Q (F0 m (pc + 3) ls (.ref (ad (71)) :: rest))) : W p l e R s m args below meth c H locs cells slots Q (F0 m pc ls (.ref (ad 34) :: rest)) := gy_gr (t := 71) (C := R_Rank) (T := F_Rank) (N := 8) (ci := 6) (fs := fun _ => gf6 ad) (own := R_Rank) (ref := R_Rank) (index := 37) (j := 5) X.1.1 X.1.2.1 X.1.2.2.2.2 uin_Rank X.1.2.2.2.1 X.2.1 rfl (by decide) (X.1.2.2.2.2 _ (gWG_in (List.mem_append_right _ q162) rfl)) (fun _ h => h) (fun _ => rfl) hW (by omega) (fun σ τ => ge_6 rfl σ τ) hdg kk
theorem gf_PG_151 (X : gcx g A p s m args c cc nL R_PG) (hW : gW g A ad np u v H) (hdg : decode cc pc = .ok (.getfield 151, 3)) (kk : W p l e R s m args below meth c H locs cells slots Q (F0 m (pc + 3) ls (.ref (ad (71)) :: rest))) : W p l e R s m args below meth c H locs cells slots Q (F0 m pc ls (.ref (ad 34) :: rest)) := gy_grN (t := 71) (C := R_Rank) (T := F_Rank) (N := 8) (ci := 6) (fs := fun _ => gf6 ad) (own := R_PG) (ref := R_Rank) (index := 151) (j := 5) (host := "PoliteGatherer") X.1.1 X.1.2.1 X.1.2.2.2.2 uin_Rank X.1.2.2.2.1 X.2.1 rfl (by decide) (va_Nw.use rfl (X.2.2.2.1 _ (gN_in (List.mem_append_right _ q163) rfl))) (fun _ h => h) (fun _ => rfl) hW (by omega) (fun σ τ => ge_6 rfl σ τ) hdg kk
theorem gf_Rank_41 (X : gcx g A p s m args c cc nL R_Rank) (hW : gW g A ad np u v H) (hdg : decode cc pc = .ok (.getfield 41, 3)) (kk : W p l e R s m args below meth c H locs cells slots Q (F0 m (pc + 3) ls (.ref (ad (72)) :: rest))) : W p l e R s m args below meth c H locs cells slots Q (F0 m pc ls (.ref (ad 34) :: rest)) := gy_gr (t := 72) (C := R_Rank) (T := F_Rank) (N := 8) (ci := 6) (fs := fun _ => gf6 ad) (own := R_Rank) (ref := R_Rank) (index := 41) (j := 6) X.1.1 X.1.2.1 X.1.2.2.2.2 uin_Rank X.1.2.2.2.1 X.2.1 rfl (by decide) (X.1.2.2.2.2 _ (gWG_in (List.mem_append_right _ q164) rfl)) (fun _ h => h) (fun _ => rfl) hW (by omega) (fun σ τ => ge_6 rfl σ τ) hdg kk
theorem gf_Rank_44 (X : gcx g A p s m args c cc nL R_Rank) (hW : gW g A ad np u v H) (hdg : decode cc pc = .ok (.getfield 44, 3)) (kk : W p l e R s m args below meth c H locs cells slots Q (F0 m (pc + 3) ls (.ref (ad (73)) :: rest))) : W p l e R s m args below meth c H locs cells slots Q (F0 m pc ls (.ref (ad 34) :: rest)) := gy_gr (t := 73) (C := R_Rank) (T := F_Rank) (N := 8) (ci := 6) (fs := fun _ => gf6 ad) (own := R_Rank) (ref := R_Rank) (index := 44) (j := 7) X.1.1 X.1.2.1 X.1.2.2.2.2 uin_Rank X.1.2.2.2.1 X.2.1 rfl (by decide) (X.1.2.2.2.2 _ (gWG_in (List.mem_append_right _ q165) rfl)) (fun _ h => h) (fun _ => rfl) hW (by omega) (fun σ τ => ge_6 rfl σ τ) hdg kk
theorem gf_PG_10 (X : gcx g A p s m args c cc nL R_PG) (hW : gW g A ad np u v H) (hdg : decode cc pc = .ok (.getfield 10, 3)) (kk : W p l e R s m args below meth c H locs cells slots Q (F0 m (pc + 3) ls (.ref (ad (1)) :: rest))) : W p l e R s m args below meth c H locs cells slots Q (F0 m pc ls (.ref (ad 0) :: rest)) := gy_gr (t := 1) (C := R_PG) (T := F_PG) (N := 4) (ci := 0) (fs := gf0 ad) (own := R_PG) (ref := R_PG) (index := 10) (j := 0) X.1.1 X.1.2.1 X.1.2.2.2.2 uin_PG X.1.2.2.2.1 X.2.1 rfl (by decide) (X.1.2.2.2.2 _ (gWG_in (List.mem_append_right _ q184) rfl)) (fun _ h => h) (fun _ => rfl) hW (by omega) (fun σ τ => ge_0 rfl σ τ) hdg kk
theorem gf_PG_21 (X : gcx g A p s m args c cc nL R_PG) (hW : gW g A ad np u v H) (hdg : decode cc pc = .ok (.getfield 21, 3)) (kk : W p l e R s m args below meth c H locs cells slots Q (F0 m (pc + 3) ls (.ref (ad (24)) :: rest))) : W p l e R s m args below meth c H locs cells slots Q (F0 m pc ls (.ref (ad 0) :: rest)) := gy_gr (t := 24) (C := R_PG) (T := F_PG) (N := 4) (ci := 0) (fs := gf0 ad) (own := R_PG) (ref := R_PG) (index := 21) (j := 1) X.1.1 X.1.2.1 X.1.2.2.2.2 uin_PG X.1.2.2.2.1 X.2.1 rfl (by decide) (X.1.2.2.2.2 _ (gWG_in (List.mem_append_right _ q185) rfl)) (fun _ h => h) (fun _ => rfl) hW (by omega) (fun σ τ => ge_0 rfl σ τ) hdg kk
theorem gf_PG_30 (X : gcx g A p s m args c cc nL R_PG) (hW : gW g A ad np u v H) (hdg : decode cc pc = .ok (.getfield 30, 3)) (kk : W p l e R s m args below meth c H locs cells slots Q (F0 m (pc + 3) ls (.ref (ad (34)) :: rest))) : W p l e R s m args below meth c H locs cells slots Q (F0 m pc ls (.ref (ad 0) :: rest)) := gy_gr (t := 34) (C := R_PG) (T := F_PG) (N := 4) (ci := 0) (fs := gf0 ad) (own := R_PG) (ref := R_PG) (index := 30) (j := 2) X.1.1 X.1.2.1 X.1.2.2.2.2 uin_PG X.1.2.2.2.1 X.2.1 rfl (by decide) (X.1.2.2.2.2 _ (gWG_in (List.mem_append_right _ q186) rfl)) (fun _ h => h) (fun _ => rfl) hW (by omega) (fun σ τ => ge_0 rfl σ τ) hdg kk
theorem gf_PG_34 {q : Nat × Nat × Nat} {z : Int32} (X : gcx g A p s m args c cc nL R_PG) (hW : gW g A ad np u v H) (hq : gv np q) (hg : gi q = (0, 3)) (hz : gr u v q = z) (hdg : decode cc pc = .ok (.getfield 34, 3)) (kk : W p l e R s m args below meth c H locs cells slots Q (F0 m (pc + 3) ls (.int z :: rest))) : W p l e R s m args below meth c H locs cells slots Q (F0 m pc ls (.ref (ad 0) :: rest)) := gy_gi (C := R_PG) (T := F_PG) (N := 4) (ci := 0) (fs := gf0 ad) (own := R_PG) (ref := R_PG) (index := 34) (j := 3) X.1.1 X.1.2.1 X.1.2.2.2.2 uin_PG X.1.2.2.2.1 X.2.1 rfl (by decide) (X.1.2.2.2.2 _ (gWG_in (List.mem_append_right _ q187) rfl)) (fun _ h => h) (fun _ => rfl) hW (by omega) (fun σ τ => ge_0 rfl σ τ) hq hg hz hdg kk
theorem pf_PG_34 {q : Nat × Nat × Nat} {z : Int32} (X : gcx g A p s m args c cc nL R_PG) (hW : gW g A ad np u v H) (hS : va_S A s.heap H locs) (hq : gv np q) (hg : gi q = (0, 3)) (hn : narrow (.boolean) (.int z) = .int z) (hfit : fits (.boolean) (.int z) = true) (hdg : decode cc pc = .ok (.putfield 34, 3)) (kk : ∀ (H1 : Heap) (locs1 : List Loc), gW g A ad np (gx u v q z).1 (gx u v q z).2 H1 → va_S A s.heap H1 locs1 → W p l e R s m args below meth c H1 locs1 cells slots Q (F0 m (pc + 3) ls rest)) : W p l e R s m args below meth c H locs cells slots Q (F0 m pc ls (.int z :: .ref (ad 0) :: rest)) := gy_pi (C := R_PG) (T := F_PG) (N := 4) (ci := 0) (fs := gf0 ad) (own := R_PG) (ref := R_PG) (index := 34) (j := 3) (ty := .boolean) X.1.1 X.1.2.1 X.1.2.2.2.2 uin_PG t_PG t_PG_ok n_PG X.1.2.2.2.1 X.2.1 rfl (by decide) (X.1.2.2.2.2 _ (gWG_in (List.mem_append_right _ q187) rfl)) (fun _ h => h) rfl rfl (fun _ => (by show 3 < 4; decide)) (fun r x => rfl) hW hS (by omega) (fun σ τ => ge_0 rfl σ τ) hq hg hn hfit hdg kk
theorem gs_Page_30 (X : gcx g A p s m args c cc nL R_Page) (hS : va_S A s.heap H locs) (hdg : decode cc pc = .ok (.getstatic 30, 3)) (kk : W p l e R s m args below meth c H locs cells slots Q (F0 m (pc + 3) ls (.ref (g.2.2 0) :: rest))) : W p l e R s m args below meth c H locs cells slots Q (F0 m pc ls rest) := va_gets X.1.1 X.1.2.1 (X.2.2.1.1 0 (by decide)).1 hS X.1.2.2.2.1 (X.1.2.2.2.2 _ (gWG_in (List.mem_append_right _ q224) rfl)) (fun _ h => h) hdg kk
theorem gf_Page_9 {q : Nat × Nat × Nat} {z : Int32} (X : gcx g A p s m args c cc nL R_Page) (hW : gW g A ad np u v H) {k : Nat} (hk : k < 94 + 5 * np) (hkk : gk k = 4) (hq : gv np q) (hg : gi q = (k, 0)) (hz : gr u v q = z) (hdg : decode cc pc = .ok (.getfield 9, 3)) (kk : W p l e R s m args below meth c H locs cells slots Q (F0 m (pc + 3) ls (.int z :: rest))) : W p l e R s m args below meth c H locs cells slots Q (F0 m pc ls (.ref (ad k) :: rest)) := gy_gi (C := R_Page) (T := F_Page) (N := 6) (ci := 4) (fs := gf4 g ad k) (own := R_Page) (ref := R_Page) (index := 9) (j := 0) X.1.1 X.1.2.1 X.1.2.2.2.2 uin_Page X.1.2.2.2.1 X.2.1 rfl (by decide) (X.1.2.2.2.2 _ (gWG_in (List.mem_append_right _ q226) rfl)) (fun _ h => h) (fun _ => rfl) hW hk (fun σ τ => ge_4 hkk σ τ) hq hg hz hdg kk
theorem gf_Web_53 {q : Nat × Nat × Nat} {z : Int32} (X : gcx g A p s m args c cc nL R_Web) (hW : gW g A ad np u v H) {k : Nat} (hk : k < 94 + 5 * np) (hkk : gk k = 4) (hq : gv np q) (hg : gi q = (k, 0)) (hz : gr u v q = z) (hdg : decode cc pc = .ok (.getfield 53, 3)) (kk : W p l e R s m args below meth c H locs cells slots Q (F0 m (pc + 3) ls (.int z :: rest))) : W p l e R s m args below meth c H locs cells slots Q (F0 m pc ls (.ref (ad k) :: rest)) := gy_giN (C := R_Page) (T := F_Page) (N := 6) (ci := 4) (fs := gf4 g ad k) (own := R_Web) (ref := R_Page) (index := 53) (j := 0) (host := "PoliteGatherer") X.1.1 X.1.2.1 X.1.2.2.2.2 uin_Page X.1.2.2.2.1 X.2.1 rfl (by decide) (va_Nw.use rfl (X.2.2.2.1 _ (gN_in (List.mem_append_right _ q227) rfl))) (fun _ h => h) (fun _ => rfl) hW hk (fun σ τ => ge_4 hkk σ τ) hq hg hz hdg kk
theorem gf_Gat_137 {q : Nat × Nat × Nat} {z : Int32} (X : gcx g A p s m args c cc nL R_Gat) (hW : gW g A ad np u v H) {k : Nat} (hk : k < 94 + 5 * np) (hkk : gk k = 4) (hq : gv np q) (hg : gi q = (k, 0)) (hz : gr u v q = z) (hdg : decode cc pc = .ok (.getfield 137, 3)) (kk : W p l e R s m args below meth c H locs cells slots Q (F0 m (pc + 3) ls (.int z :: rest))) : W p l e R s m args below meth c H locs cells slots Q (F0 m pc ls (.ref (ad k) :: rest)) := gy_giN (C := R_Page) (T := F_Page) (N := 6) (ci := 4) (fs := gf4 g ad k) (own := R_Gat) (ref := R_Page) (index := 137) (j := 0) (host := "PoliteGatherer") X.1.1 X.1.2.1 X.1.2.2.2.2 uin_Page X.1.2.2.2.1 X.2.1 rfl (by decide) (va_Nw.use rfl (X.2.2.2.1 _ (gN_in (List.mem_append_right _ q228) rfl))) (fun _ h => h) (fun _ => rfl) hW hk (fun σ τ => ge_4 hkk σ τ) hq hg hz hdg kk
theorem gf_Page_15 {q : Nat × Nat × Nat} {z : Int32} (X : gcx g A p s m args c cc nL R_Page) (hW : gW g A ad np u v H) {k : Nat} (hk : k < 94 + 5 * np) (hkk : gk k = 4) (hq : gv np q) (hg : gi q = (k, 1)) (hz : gr u v q = z) (hdg : decode cc pc = .ok (.getfield 15, 3)) (kk : W p l e R s m args below meth c H locs cells slots Q (F0 m (pc + 3) ls (.int z :: rest))) : W p l e R s m args below meth c H locs cells slots Q (F0 m pc ls (.ref (ad k) :: rest)) := gy_gi (C := R_Page) (T := F_Page) (N := 6) (ci := 4) (fs := gf4 g ad k) (own := R_Page) (ref := R_Page) (index := 15) (j := 1) X.1.1 X.1.2.1 X.1.2.2.2.2 uin_Page X.1.2.2.2.1 X.2.1 rfl (by decide) (X.1.2.2.2.2 _ (gWG_in (List.mem_append_right _ q229) rfl)) (fun _ h => h) (fun _ => rfl) hW hk (fun σ τ => ge_4 hkk σ τ) hq hg hz hdg kk
theorem gf_Web_56 {q : Nat × Nat × Nat} {z : Int32} (X : gcx g A p s m args c cc nL R_Web) (hW : gW g A ad np u v H) {k : Nat} (hk : k < 94 + 5 * np) (hkk : gk k = 4) (hq : gv np q) (hg : gi q = (k, 1)) (hz : gr u v q = z) (hdg : decode cc pc = .ok (.getfield 56, 3)) (kk : W p l e R s m args below meth c H locs cells slots Q (F0 m (pc + 3) ls (.int z :: rest))) : W p l e R s m args below meth c H locs cells slots Q (F0 m pc ls (.ref (ad k) :: rest)) := gy_giN (C := R_Page) (T := F_Page) (N := 6) (ci := 4) (fs := gf4 g ad k) (own := R_Web) (ref := R_Page) (index := 56) (j := 1) (host := "PoliteGatherer") X.1.1 X.1.2.1 X.1.2.2.2.2 uin_Page X.1.2.2.2.1 X.2.1 rfl (by decide) (va_Nw.use rfl (X.2.2.2.1 _ (gN_in (List.mem_append_right _ q230) rfl))) (fun _ h => h) (fun _ => rfl) hW hk (fun σ τ => ge_4 hkk σ τ) hq hg hz hdg kk
theorem gf_Page_23 (X : gcx g A p s m args c cc nL R_Page) (hW : gW g A ad np u v H) {k : Nat} (hk : k < 94 + 5 * np) (hkk : gk k = 4) (hdg : decode cc pc = .ok (.getfield 23, 3)) (kk : W p l e R s m args below meth c H locs cells slots Q (F0 m (pc + 3) ls (.ref (ad (k + 1)) :: rest))) : W p l e R s m args below meth c H locs cells slots Q (F0 m pc ls (.ref (ad k) :: rest)) := gy_gr (t := k + 1) (C := R_Page) (T := F_Page) (N := 6) (ci := 4) (fs := gf4 g ad k) (own := R_Page) (ref := R_Page) (index := 23) (j := 2) X.1.1 X.1.2.1 X.1.2.2.2.2 uin_Page X.1.2.2.2.1 X.2.1 rfl (by decide) (X.1.2.2.2.2 _ (gWG_in (List.mem_append_right _ q231) rfl)) (fun _ h => h) (fun _ => rfl) hW hk (fun σ τ => ge_4 hkk σ τ) hdg kk
theorem gf_Rank_62 (X : gcx g A p s m args c cc nL R_Rank) (hW : gW g A ad np u v H) {k : Nat} (hk : k < 94 + 5 * np) (hkk : gk k = 4) (hdg : decode cc pc = .ok (.getfield 62, 3)) (kk : W p l e R s m args below meth c H locs cells slots Q (F0 m (pc + 3) ls (.ref (ad (k + 1)) :: rest))) : W p l e R s m args below meth c H locs cells slots Q (F0 m pc ls (.ref (ad k) :: rest)) := gy_grN (t := k + 1) (C := R_Page) (T := F_Page) (N := 6) (ci := 4) (fs := gf4 g ad k) (own := R_Rank) (ref := R_Page) (index := 62) (j := 2) (host := "PoliteGatherer") X.1.1 X.1.2.1 X.1.2.2.2.2 uin_Page X.1.2.2.2.1 X.2.1 rfl (by decide) (va_Nw.use rfl (X.2.2.2.1 _ (gN_in (List.mem_append_right _ q232) rfl))) (fun _ h => h) (fun _ => rfl) hW hk (fun σ τ => ge_4 hkk σ τ) hdg kk
theorem gf_PG_54 (X : gcx g A p s m args c cc nL R_PG) (hW : gW g A ad np u v H) {k : Nat} (hk : k < 94 + 5 * np) (hkk : gk k = 4) (hdg : decode cc pc = .ok (.getfield 54, 3)) (kk : W p l e R s m args below meth c H locs cells slots Q (F0 m (pc + 3) ls (.ref (ad (k + 1)) :: rest))) : W p l e R s m args below meth c H locs cells slots Q (F0 m pc ls (.ref (ad k) :: rest)) := gy_grN (t := k + 1) (C := R_Page) (T := F_Page) (N := 6) (ci := 4) (fs := gf4 g ad k) (own := R_PG) (ref := R_Page) (index := 54) (j := 2) (host := "PoliteGatherer") X.1.1 X.1.2.1 X.1.2.2.2.2 uin_Page X.1.2.2.2.1 X.2.1 rfl (by decide) (va_Nw.use rfl (X.2.2.2.1 _ (gN_in (List.mem_append_right _ q233) rfl))) (fun _ h => h) (fun _ => rfl) hW hk (fun σ τ => ge_4 hkk σ τ) hdg kk
theorem gf_PG_68 (X : gcx g A p s m args c cc nL R_PG) (hW : gW g A ad np u v H) {k : Nat} (hk : k < 94 + 5 * np) (hkk : gk k = 4) (hdg : decode cc pc = .ok (.getfield 68, 3)) (kk : W p l e R s m args below meth c H locs cells slots Q (F0 m (pc + 3) ls (.ref (ad (k + 3)) :: rest))) : W p l e R s m args below meth c H locs cells slots Q (F0 m pc ls (.ref (ad k) :: rest)) := gy_grN (t := k + 3) (C := R_Page) (T := F_Page) (N := 6) (ci := 4) (fs := gf4 g ad k) (own := R_PG) (ref := R_Page) (index := 68) (j := 3) (host := "PoliteGatherer") X.1.1 X.1.2.1 X.1.2.2.2.2 uin_Page X.1.2.2.2.1 X.2.1 rfl (by decide) (va_Nw.use rfl (X.2.2.2.1 _ (gN_in (List.mem_append_right _ q235) rfl))) (fun _ h => h) (fun _ => rfl) hW hk (fun σ τ => ge_4 hkk σ τ) hdg kk
theorem gf_Gat_99 (X : gcx g A p s m args c cc nL R_Gat) (hW : gW g A ad np u v H) {k : Nat} (hk : k < 94 + 5 * np) (hkk : gk k = 4) (hdg : decode cc pc = .ok (.getfield 99, 3)) (kk : W p l e R s m args below meth c H locs cells slots Q (F0 m (pc + 3) ls (.ref (ad (k + 3)) :: rest))) : W p l e R s m args below meth c H locs cells slots Q (F0 m pc ls (.ref (ad k) :: rest)) := gy_grN (t := k + 3) (C := R_Page) (T := F_Page) (N := 6) (ci := 4) (fs := gf4 g ad k) (own := R_Gat) (ref := R_Page) (index := 99) (j := 3) (host := "PoliteGatherer") X.1.1 X.1.2.1 X.1.2.2.2.2 uin_Page X.1.2.2.2.1 X.2.1 rfl (by decide) (va_Nw.use rfl (X.2.2.2.1 _ (gN_in (List.mem_append_right _ q236) rfl))) (fun _ h => h) (fun _ => rfl) hW hk (fun σ τ => ge_4 hkk σ τ) hdg kk
theorem gf_Rank_109 (X : gcx g A p s m args c cc nL R_Rank) (hW : gW g A ad np u v H) {k : Nat} (hk : k < 94 + 5 * np) (hkk : gk k = 4) (hdg : decode cc pc = .ok (.getfield 109, 3)) (kk : W p l e R s m args below meth c H locs cells slots Q (F0 m (pc + 3) ls (.ref (ad (k + 3)) :: rest))) : W p l e R s m args below meth c H locs cells slots Q (F0 m pc ls (.ref (ad k) :: rest)) := gy_grN (t := k + 3) (C := R_Page) (T := F_Page) (N := 6) (ci := 4) (fs := gf4 g ad k) (own := R_Rank) (ref := R_Page) (index := 109) (j := 3) (host := "PoliteGatherer") X.1.1 X.1.2.1 X.1.2.2.2.2 uin_Page X.1.2.2.2.1 X.2.1 rfl (by decide) (va_Nw.use rfl (X.2.2.2.1 _ (gN_in (List.mem_append_right _ q237) rfl))) (fun _ h => h) (fun _ => rfl) hW hk (fun σ τ => ge_4 hkk σ τ) hdg kk
theorem pf_PG_77 {q : Nat × Nat × Nat} {z : Int32} (X : gcx g A p s m args c cc nL R_PG) (hW : gW g A ad np u v H) (hS : va_S A s.heap H locs) {k : Nat} (hk : k < 94 + 5 * np) (hkk : gk k = 4) (hq : gv np q) (hg : gi q = (k, 4)) {w : Nat} (hw : z.toNatClampNeg = w) (hn : narrow (.object "PoliteGatherer$Reply") (.ref (g.2.2 w)) = .ref (g.2.2 w)) (hfit : fits (.object "PoliteGatherer$Reply") (.ref (g.2.2 w)) = true) (hdg : decode cc pc = .ok (.putfield 77, 3)) (kk : ∀ (H1 : Heap) (locs1 : List Loc), gW g A ad np (gx u v q z).1 (gx u v q z).2 H1 → va_S A s.heap H1 locs1 → W p l e R s m args below meth c H1 locs1 cells slots Q (F0 m (pc + 3) ls rest)) : W p l e R s m args below meth c H locs cells slots Q (F0 m pc ls (.ref (g.2.2 w) :: .ref (ad k) :: rest)) := gy_peN (C := R_Page) (T := F_Page) (N := 6) (ci := 4) (fs := gf4 g ad k) (own := R_PG) (ref := R_Page) (index := 77) (j := 4) (host := "PoliteGatherer") (ty := .object "PoliteGatherer$Reply") X.1.1 X.1.2.1 X.1.2.2.2.2 uin_Page t_Page t_Page_ok n_Page X.1.2.2.2.1 X.2.1 rfl (by decide) (va_Nw.use rfl (X.2.2.2.1 _ (gN_in (List.mem_append_right _ q239) rfl))) (fun _ h => h) rfl rfl (fun _ => (by show 4 < 6; decide)) (fun r x => rfl) hW hS hk (fun σ τ => ge_4 hkk σ τ) hq hg hw hn hfit hdg kk
theorem gf_Gat_113 {q : Nat × Nat × Nat} {z : Int32} (X : gcx g A p s m args c cc nL R_Gat) (hW : gW g A ad np u v H) {k : Nat} (hk : k < 94 + 5 * np) (hkk : gk k = 4) (hq : gv np q) (hg : gi q = (k, 4)) (hz : gr u v q = z) (hdg : decode cc pc = .ok (.getfield 113, 3)) (kk : W p l e R s m args below meth c H locs cells slots Q (F0 m (pc + 3) ls (.ref (g.2.2 z.toNatClampNeg) :: rest))) : W p l e R s m args below meth c H locs cells slots Q (F0 m pc ls (.ref (ad k) :: rest)) := gy_geN (C := R_Page) (T := F_Page) (N := 6) (ci := 4) (fs := gf4 g ad k) (own := R_Gat) (ref := R_Page) (index := 113) (j := 4) (host := "PoliteGatherer") X.1.1 X.1.2.1 X.1.2.2.2.2 uin_Page X.1.2.2.2.1 X.2.1 rfl (by decide) (va_Nw.use rfl (X.2.2.2.1 _ (gN_in (List.mem_append_right _ q240) rfl))) (fun _ h => h) (fun _ => rfl) hW hk (fun σ τ => ge_4 hkk σ τ) hq hg hz hdg kk
theorem pf_PG_80 {q : Nat × Nat × Nat} {z : Int32} (X : gcx g A p s m args c cc nL R_PG) (hW : gW g A ad np u v H) (hS : va_S A s.heap H locs) {k : Nat} (hk : k < 94 + 5 * np) (hkk : gk k = 4) (hq : gv np q) (hg : gi q = (k, 5)) (hn : narrow (.int) (.int z) = .int z) (hfit : fits (.int) (.int z) = true) (hdg : decode cc pc = .ok (.putfield 80, 3)) (kk : ∀ (H1 : Heap) (locs1 : List Loc), gW g A ad np (gx u v q z).1 (gx u v q z).2 H1 → va_S A s.heap H1 locs1 → W p l e R s m args below meth c H1 locs1 cells slots Q (F0 m (pc + 3) ls rest)) : W p l e R s m args below meth c H locs cells slots Q (F0 m pc ls (.int z :: .ref (ad k) :: rest)) := gy_piN (C := R_Page) (T := F_Page) (N := 6) (ci := 4) (fs := gf4 g ad k) (own := R_PG) (ref := R_Page) (index := 80) (j := 5) (host := "PoliteGatherer") (ty := .int) X.1.1 X.1.2.1 X.1.2.2.2.2 uin_Page t_Page t_Page_ok n_Page X.1.2.2.2.1 X.2.1 rfl (by decide) (va_Nw.use rfl (X.2.2.2.1 _ (gN_in (List.mem_append_right _ q242) rfl))) (fun _ h => h) rfl rfl (fun _ => (by show 5 < 6; decide)) (fun r x => rfl) hW hS hk (fun σ τ => ge_4 hkk σ τ) hq hg hn hfit hdg kk
theorem gf_Gat_125 {q : Nat × Nat × Nat} {z : Int32} (X : gcx g A p s m args c cc nL R_Gat) (hW : gW g A ad np u v H) {k : Nat} (hk : k < 94 + 5 * np) (hkk : gk k = 4) (hq : gv np q) (hg : gi q = (k, 5)) (hz : gr u v q = z) (hdg : decode cc pc = .ok (.getfield 125, 3)) (kk : W p l e R s m args below meth c H locs cells slots Q (F0 m (pc + 3) ls (.int z :: rest))) : W p l e R s m args below meth c H locs cells slots Q (F0 m pc ls (.ref (ad k) :: rest)) := gy_giN (C := R_Page) (T := F_Page) (N := 6) (ci := 4) (fs := gf4 g ad k) (own := R_Gat) (ref := R_Page) (index := 125) (j := 5) (host := "PoliteGatherer") X.1.1 X.1.2.1 X.1.2.2.2.2 uin_Page X.1.2.2.2.1 X.2.1 rfl (by decide) (va_Nw.use rfl (X.2.2.2.1 _ (gN_in (List.mem_append_right _ q243) rfl))) (fun _ h => h) (fun _ => rfl) hW hk (fun σ τ => ge_4 hkk σ τ) hq hg hz hdg kk
theorem gs_PG_71 (X : gcx g A p s m args c cc nL R_PG) (hS : va_S A s.heap H locs) (hdg : decode cc pc = .ok (.getstatic 71, 3)) (kk : W p l e R s m args below meth c H locs cells slots Q (F0 m (pc + 3) ls (.ref (g.2.2 1) :: rest))) : W p l e R s m args below meth c H locs cells slots Q (F0 m pc ls rest) := va_gets X.1.1 X.1.2.1 (X.2.2.1.1 1 (by decide)).1 hS X.1.2.2.2.1 (X.1.2.2.2.2 _ (gWG_in (List.mem_append_right _ q281) rfl)) (fun _ h => h) hdg kk
theorem gs_PG_84 (X : gcx g A p s m args c cc nL R_PG) (hS : va_S A s.heap H locs) (hdg : decode cc pc = .ok (.getstatic 84, 3)) (kk : W p l e R s m args below meth c H locs cells slots Q (F0 m (pc + 3) ls (.ref (g.2.2 2) :: rest))) : W p l e R s m args below meth c H locs cells slots Q (F0 m pc ls rest) := va_gets X.1.1 X.1.2.1 (X.2.2.1.1 2 (by decide)).1 hS X.1.2.2.2.1 (X.1.2.2.2.2 _ (gWG_in (List.mem_append_right _ q287) rfl)) (fun _ h => h) hdg kk
theorem gs_Gat_117 (X : gcx g A p s m args c cc nL R_Gat) (hS : va_S A s.heap H locs) (hdg : decode cc pc = .ok (.getstatic 117, 3)) (kk : W p l e R s m args below meth c H locs cells slots Q (F0 m (pc + 3) ls (.ref (g.2.2 0) :: rest))) : W p l e R s m args below meth c H locs cells slots Q (F0 m pc ls rest) := va_gets X.1.1 X.1.2.1 (X.2.2.1.1 0 (by decide)).1 hS X.1.2.2.2.1 (X.1.2.2.2.2 _ (gWG_in (List.mem_append_right _ q377) rfl)) (fun _ h => h) hdg kk
theorem gs_Gat_122 (X : gcx g A p s m args c cc nL R_Gat) (hS : va_S A s.heap H locs) (hdg : decode cc pc = .ok (.getstatic 122, 3)) (kk : W p l e R s m args below meth c H locs cells slots Q (F0 m (pc + 3) ls (.ref (g.2.2 2) :: rest))) : W p l e R s m args below meth c H locs cells slots Q (F0 m pc ls rest) := va_gets X.1.1 X.1.2.1 (X.2.2.1.1 2 (by decide)).1 hS X.1.2.2.2.1 (X.1.2.2.2.2 _ (gWG_in (List.mem_append_right _ q378) rfl)) (fun _ h => h) hdg kk
theorem gf_Mod_69 {q : Nat × Nat × Nat} {z : Int32} (X : gcx g A p s m args c cc nL R_Mod) (hW : gW g A ad np u v H) (hq : gv np q) (hg : gi q = (74, 0)) (hz : gr u v q = z) (hdg : decode cc pc = .ok (.getfield 69, 3)) (kk : W p l e R s m args below meth c H locs cells slots Q (F0 m (pc + 3) ls (.int z :: rest))) : W p l e R s m args below meth c H locs cells slots Q (F0 m pc ls (.ref (ad 74) :: rest)) := gy_gi (C := R_Mod) (T := F_Mod) (N := 37) (ci := 7) (fs := gf7 ad) (own := R_Mod) (ref := R_Mod) (index := 69) (j := 0) X.1.1 X.1.2.1 X.1.2.2.2.2 uin_Mod X.1.2.2.2.1 X.2.1 rfl (by decide) (X.1.2.2.2.2 _ (gWG_in (List.mem_append_right _ q500) rfl)) (fun _ h => h) (fun _ => rfl) hW (by omega) (fun σ τ => ge_7 rfl σ τ) hq hg hz hdg kk
theorem pf_Mod_69 {q : Nat × Nat × Nat} {z : Int32} (X : gcx g A p s m args c cc nL R_Mod) (hW : gW g A ad np u v H) (hS : va_S A s.heap H locs) (hq : gv np q) (hg : gi q = (74, 0)) (hn : narrow (.int) (.int z) = .int z) (hfit : fits (.int) (.int z) = true) (hdg : decode cc pc = .ok (.putfield 69, 3)) (kk : ∀ (H1 : Heap) (locs1 : List Loc), gW g A ad np (gx u v q z).1 (gx u v q z).2 H1 → va_S A s.heap H1 locs1 → W p l e R s m args below meth c H1 locs1 cells slots Q (F0 m (pc + 3) ls rest)) : W p l e R s m args below meth c H locs cells slots Q (F0 m pc ls (.int z :: .ref (ad 74) :: rest)) := gy_pi (C := R_Mod) (T := F_Mod) (N := 37) (ci := 7) (fs := gf7 ad) (own := R_Mod) (ref := R_Mod) (index := 69) (j := 0) (ty := .int) X.1.1 X.1.2.1 X.1.2.2.2.2 uin_Mod t_Mod t_Mod_ok n_Mod X.1.2.2.2.1 X.2.1 rfl (by decide) (X.1.2.2.2.2 _ (gWG_in (List.mem_append_right _ q500) rfl)) (fun _ h => h) rfl rfl (fun _ => (by show 0 < 37; decide)) (fun r x => rfl) hW hS (by omega) (fun σ τ => ge_7 rfl σ τ) hq hg hn hfit hdg kk
theorem gf_Mod_7 (X : gcx g A p s m args c cc nL R_Mod) (hW : gW g A ad np u v H) (hdg : decode cc pc = .ok (.getfield 7, 3)) (kk : W p l e R s m args below meth c H locs cells slots Q (F0 m (pc + 3) ls (.ref (ad (75)) :: rest))) : W p l e R s m args below meth c H locs cells slots Q (F0 m pc ls (.ref (ad 74) :: rest)) := gy_gr (t := 75) (C := R_Mod) (T := F_Mod) (N := 37) (ci := 7) (fs := gf7 ad) (own := R_Mod) (ref := R_Mod) (index := 7) (j := 1) X.1.1 X.1.2.1 X.1.2.2.2.2 uin_Mod X.1.2.2.2.1 X.2.1 rfl (by decide) (X.1.2.2.2.2 _ (gWG_in (List.mem_append_right _ q501) rfl)) (fun _ h => h) (fun _ => rfl) hW (by omega) (fun σ τ => ge_7 rfl σ τ) hdg kk
theorem gf_Mod_13 (X : gcx g A p s m args c cc nL R_Mod) (hW : gW g A ad np u v H) (hdg : decode cc pc = .ok (.getfield 13, 3)) (kk : W p l e R s m args below meth c H locs cells slots Q (F0 m (pc + 3) ls (.ref (ad (76)) :: rest))) : W p l e R s m args below meth c H locs cells slots Q (F0 m pc ls (.ref (ad 74) :: rest)) := gy_gr (t := 76) (C := R_Mod) (T := F_Mod) (N := 37) (ci := 7) (fs := gf7 ad) (own := R_Mod) (ref := R_Mod) (index := 13) (j := 2) X.1.1 X.1.2.1 X.1.2.2.2.2 uin_Mod X.1.2.2.2.1 X.2.1 rfl (by decide) (X.1.2.2.2.2 _ (gWG_in (List.mem_append_right _ q502) rfl)) (fun _ h => h) (fun _ => rfl) hW (by omega) (fun σ τ => ge_7 rfl σ τ) hdg kk
theorem gf_Mod_16 (X : gcx g A p s m args c cc nL R_Mod) (hW : gW g A ad np u v H) (hdg : decode cc pc = .ok (.getfield 16, 3)) (kk : W p l e R s m args below meth c H locs cells slots Q (F0 m (pc + 3) ls (.ref (ad (77)) :: rest))) : W p l e R s m args below meth c H locs cells slots Q (F0 m pc ls (.ref (ad 74) :: rest)) := gy_gr (t := 77) (C := R_Mod) (T := F_Mod) (N := 37) (ci := 7) (fs := gf7 ad) (own := R_Mod) (ref := R_Mod) (index := 16) (j := 3) X.1.1 X.1.2.1 X.1.2.2.2.2 uin_Mod X.1.2.2.2.1 X.2.1 rfl (by decide) (X.1.2.2.2.2 _ (gWG_in (List.mem_append_right _ q503) rfl)) (fun _ h => h) (fun _ => rfl) hW (by omega) (fun σ τ => ge_7 rfl σ τ) hdg kk
theorem gf_Mod_19 (X : gcx g A p s m args c cc nL R_Mod) (hW : gW g A ad np u v H) (hdg : decode cc pc = .ok (.getfield 19, 3)) (kk : W p l e R s m args below meth c H locs cells slots Q (F0 m (pc + 3) ls (.ref (ad (78)) :: rest))) : W p l e R s m args below meth c H locs cells slots Q (F0 m pc ls (.ref (ad 74) :: rest)) := gy_gr (t := 78) (C := R_Mod) (T := F_Mod) (N := 37) (ci := 7) (fs := gf7 ad) (own := R_Mod) (ref := R_Mod) (index := 19) (j := 4) X.1.1 X.1.2.1 X.1.2.2.2.2 uin_Mod X.1.2.2.2.1 X.2.1 rfl (by decide) (X.1.2.2.2.2 _ (gWG_in (List.mem_append_right _ q504) rfl)) (fun _ h => h) (fun _ => rfl) hW (by omega) (fun σ τ => ge_7 rfl σ τ) hdg kk
theorem gf_Mod_22 (X : gcx g A p s m args c cc nL R_Mod) (hW : gW g A ad np u v H) (hdg : decode cc pc = .ok (.getfield 22, 3)) (kk : W p l e R s m args below meth c H locs cells slots Q (F0 m (pc + 3) ls (.ref (ad (79)) :: rest))) : W p l e R s m args below meth c H locs cells slots Q (F0 m pc ls (.ref (ad 74) :: rest)) := gy_gr (t := 79) (C := R_Mod) (T := F_Mod) (N := 37) (ci := 7) (fs := gf7 ad) (own := R_Mod) (ref := R_Mod) (index := 22) (j := 5) X.1.1 X.1.2.1 X.1.2.2.2.2 uin_Mod X.1.2.2.2.1 X.2.1 rfl (by decide) (X.1.2.2.2.2 _ (gWG_in (List.mem_append_right _ q505) rfl)) (fun _ h => h) (fun _ => rfl) hW (by omega) (fun σ τ => ge_7 rfl σ τ) hdg kk
theorem gf_Mod_25 (X : gcx g A p s m args c cc nL R_Mod) (hW : gW g A ad np u v H) (hdg : decode cc pc = .ok (.getfield 25, 3)) (kk : W p l e R s m args below meth c H locs cells slots Q (F0 m (pc + 3) ls (.ref (ad (80)) :: rest))) : W p l e R s m args below meth c H locs cells slots Q (F0 m pc ls (.ref (ad 74) :: rest)) := gy_gr (t := 80) (C := R_Mod) (T := F_Mod) (N := 37) (ci := 7) (fs := gf7 ad) (own := R_Mod) (ref := R_Mod) (index := 25) (j := 6) X.1.1 X.1.2.1 X.1.2.2.2.2 uin_Mod X.1.2.2.2.1 X.2.1 rfl (by decide) (X.1.2.2.2.2 _ (gWG_in (List.mem_append_right _ q506) rfl)) (fun _ h => h) (fun _ => rfl) hW (by omega) (fun σ τ => ge_7 rfl σ τ) hdg kk
theorem gf_Mod_28 (X : gcx g A p s m args c cc nL R_Mod) (hW : gW g A ad np u v H) (hdg : decode cc pc = .ok (.getfield 28, 3)) (kk : W p l e R s m args below meth c H locs cells slots Q (F0 m (pc + 3) ls (.ref (ad (81)) :: rest))) : W p l e R s m args below meth c H locs cells slots Q (F0 m pc ls (.ref (ad 74) :: rest)) := gy_gr (t := 81) (C := R_Mod) (T := F_Mod) (N := 37) (ci := 7) (fs := gf7 ad) (own := R_Mod) (ref := R_Mod) (index := 28) (j := 7) X.1.1 X.1.2.1 X.1.2.2.2.2 uin_Mod X.1.2.2.2.1 X.2.1 rfl (by decide) (X.1.2.2.2.2 _ (gWG_in (List.mem_append_right _ q507) rfl)) (fun _ h => h) (fun _ => rfl) hW (by omega) (fun σ τ => ge_7 rfl σ τ) hdg kk
theorem gf_Mod_31 (X : gcx g A p s m args c cc nL R_Mod) (hW : gW g A ad np u v H) (hdg : decode cc pc = .ok (.getfield 31, 3)) (kk : W p l e R s m args below meth c H locs cells slots Q (F0 m (pc + 3) ls (.ref (ad (82)) :: rest))) : W p l e R s m args below meth c H locs cells slots Q (F0 m pc ls (.ref (ad 74) :: rest)) := gy_gr (t := 82) (C := R_Mod) (T := F_Mod) (N := 37) (ci := 7) (fs := gf7 ad) (own := R_Mod) (ref := R_Mod) (index := 31) (j := 8) X.1.1 X.1.2.1 X.1.2.2.2.2 uin_Mod X.1.2.2.2.1 X.2.1 rfl (by decide) (X.1.2.2.2.2 _ (gWG_in (List.mem_append_right _ q508) rfl)) (fun _ h => h) (fun _ => rfl) hW (by omega) (fun σ τ => ge_7 rfl σ τ) hdg kk
theorem gf_Mod_34 (X : gcx g A p s m args c cc nL R_Mod) (hW : gW g A ad np u v H) (hdg : decode cc pc = .ok (.getfield 34, 3)) (kk : W p l e R s m args below meth c H locs cells slots Q (F0 m (pc + 3) ls (.ref (ad (83)) :: rest))) : W p l e R s m args below meth c H locs cells slots Q (F0 m pc ls (.ref (ad 74) :: rest)) := gy_gr (t := 83) (C := R_Mod) (T := F_Mod) (N := 37) (ci := 7) (fs := gf7 ad) (own := R_Mod) (ref := R_Mod) (index := 34) (j := 9) X.1.1 X.1.2.1 X.1.2.2.2.2 uin_Mod X.1.2.2.2.1 X.2.1 rfl (by decide) (X.1.2.2.2.2 _ (gWG_in (List.mem_append_right _ q509) rfl)) (fun _ h => h) (fun _ => rfl) hW (by omega) (fun σ τ => ge_7 rfl σ τ) hdg kk
theorem gf_Mod_38 (X : gcx g A p s m args c cc nL R_Mod) (hW : gW g A ad np u v H) (hdg : decode cc pc = .ok (.getfield 38, 3)) (kk : W p l e R s m args below meth c H locs cells slots Q (F0 m (pc + 3) ls (.ref (ad (84)) :: rest))) : W p l e R s m args below meth c H locs cells slots Q (F0 m pc ls (.ref (ad 74) :: rest)) := gy_gr (t := 84) (C := R_Mod) (T := F_Mod) (N := 37) (ci := 7) (fs := gf7 ad) (own := R_Mod) (ref := R_Mod) (index := 38) (j := 10) X.1.1 X.1.2.1 X.1.2.2.2.2 uin_Mod X.1.2.2.2.1 X.2.1 rfl (by decide) (X.1.2.2.2.2 _ (gWG_in (List.mem_append_right _ q510) rfl)) (fun _ h => h) (fun _ => rfl) hW (by omega) (fun σ τ => ge_7 rfl σ τ) hdg kk
theorem gf_Mod_41 (X : gcx g A p s m args c cc nL R_Mod) (hW : gW g A ad np u v H) (hdg : decode cc pc = .ok (.getfield 41, 3)) (kk : W p l e R s m args below meth c H locs cells slots Q (F0 m (pc + 3) ls (.ref (ad (85)) :: rest))) : W p l e R s m args below meth c H locs cells slots Q (F0 m pc ls (.ref (ad 74) :: rest)) := gy_gr (t := 85) (C := R_Mod) (T := F_Mod) (N := 37) (ci := 7) (fs := gf7 ad) (own := R_Mod) (ref := R_Mod) (index := 41) (j := 11) X.1.1 X.1.2.1 X.1.2.2.2.2 uin_Mod X.1.2.2.2.1 X.2.1 rfl (by decide) (X.1.2.2.2.2 _ (gWG_in (List.mem_append_right _ q511) rfl)) (fun _ h => h) (fun _ => rfl) hW (by omega) (fun σ τ => ge_7 rfl σ τ) hdg kk
theorem gf_Mod_82 {q : Nat × Nat × Nat} {z : Int32} (X : gcx g A p s m args c cc nL R_Mod) (hW : gW g A ad np u v H) (hq : gv np q) (hg : gi q = (74, 12)) (hz : gr u v q = z) (hdg : decode cc pc = .ok (.getfield 82, 3)) (kk : W p l e R s m args below meth c H locs cells slots Q (F0 m (pc + 3) ls (.int z :: rest))) : W p l e R s m args below meth c H locs cells slots Q (F0 m pc ls (.ref (ad 74) :: rest)) := gy_gi (C := R_Mod) (T := F_Mod) (N := 37) (ci := 7) (fs := gf7 ad) (own := R_Mod) (ref := R_Mod) (index := 82) (j := 12) X.1.1 X.1.2.1 X.1.2.2.2.2 uin_Mod X.1.2.2.2.1 X.2.1 rfl (by decide) (X.1.2.2.2.2 _ (gWG_in (List.mem_append_right _ q512) rfl)) (fun _ h => h) (fun _ => rfl) hW (by omega) (fun σ τ => ge_7 rfl σ τ) hq hg hz hdg kk
theorem pf_Mod_82 {q : Nat × Nat × Nat} {z : Int32} (X : gcx g A p s m args c cc nL R_Mod) (hW : gW g A ad np u v H) (hS : va_S A s.heap H locs) (hq : gv np q) (hg : gi q = (74, 12)) (hn : narrow (.int) (.int z) = .int z) (hfit : fits (.int) (.int z) = true) (hdg : decode cc pc = .ok (.putfield 82, 3)) (kk : ∀ (H1 : Heap) (locs1 : List Loc), gW g A ad np (gx u v q z).1 (gx u v q z).2 H1 → va_S A s.heap H1 locs1 → W p l e R s m args below meth c H1 locs1 cells slots Q (F0 m (pc + 3) ls rest)) : W p l e R s m args below meth c H locs cells slots Q (F0 m pc ls (.int z :: .ref (ad 74) :: rest)) := gy_pi (C := R_Mod) (T := F_Mod) (N := 37) (ci := 7) (fs := gf7 ad) (own := R_Mod) (ref := R_Mod) (index := 82) (j := 12) (ty := .int) X.1.1 X.1.2.1 X.1.2.2.2.2 uin_Mod t_Mod t_Mod_ok n_Mod X.1.2.2.2.1 X.2.1 rfl (by decide) (X.1.2.2.2.2 _ (gWG_in (List.mem_append_right _ q512) rfl)) (fun _ h => h) rfl rfl (fun _ => (by show 12 < 37; decide)) (fun r x => rfl) hW hS (by omega) (fun σ τ => ge_7 rfl σ τ) hq hg hn hfit hdg kk
theorem gf_Mod_73 {q : Nat × Nat × Nat} {z : Int32} (X : gcx g A p s m args c cc nL R_Mod) (hW : gW g A ad np u v H) (hq : gv np q) (hg : gi q = (74, 13)) (hz : gr u v q = z) (hdg : decode cc pc = .ok (.getfield 73, 3)) (kk : W p l e R s m args below meth c H locs cells slots Q (F0 m (pc + 3) ls (.int z :: rest))) : W p l e R s m args below meth c H locs cells slots Q (F0 m pc ls (.ref (ad 74) :: rest)) := gy_gi (C := R_Mod) (T := F_Mod) (N := 37) (ci := 7) (fs := gf7 ad) (own := R_Mod) (ref := R_Mod) (index := 73) (j := 13) X.1.1 X.1.2.1 X.1.2.2.2.2 uin_Mod X.1.2.2.2.1 X.2.1 rfl (by decide) (X.1.2.2.2.2 _ (gWG_in (List.mem_append_right _ q513) rfl)) (fun _ h => h) (fun _ => rfl) hW (by omega) (fun σ τ => ge_7 rfl σ τ) hq hg hz hdg kk
theorem pf_Mod_73 {q : Nat × Nat × Nat} {z : Int32} (X : gcx g A p s m args c cc nL R_Mod) (hW : gW g A ad np u v H) (hS : va_S A s.heap H locs) (hq : gv np q) (hg : gi q = (74, 13)) (hn : narrow (.boolean) (.int z) = .int z) (hfit : fits (.boolean) (.int z) = true) (hdg : decode cc pc = .ok (.putfield 73, 3)) (kk : ∀ (H1 : Heap) (locs1 : List Loc), gW g A ad np (gx u v q z).1 (gx u v q z).2 H1 → va_S A s.heap H1 locs1 → W p l e R s m args below meth c H1 locs1 cells slots Q (F0 m (pc + 3) ls rest)) : W p l e R s m args below meth c H locs cells slots Q (F0 m pc ls (.int z :: .ref (ad 74) :: rest)) := gy_pi (C := R_Mod) (T := F_Mod) (N := 37) (ci := 7) (fs := gf7 ad) (own := R_Mod) (ref := R_Mod) (index := 73) (j := 13) (ty := .boolean) X.1.1 X.1.2.1 X.1.2.2.2.2 uin_Mod t_Mod t_Mod_ok n_Mod X.1.2.2.2.1 X.2.1 rfl (by decide) (X.1.2.2.2.2 _ (gWG_in (List.mem_append_right _ q513) rfl)) (fun _ h => h) rfl rfl (fun _ => (by show 13 < 37; decide)) (fun r x => rfl) hW hS (by omega) (fun σ τ => ge_7 rfl σ τ) hq hg hn hfit hdg kk
theorem gf_Mod_131 {q : Nat × Nat × Nat} {z : Int32} (X : gcx g A p s m args c cc nL R_Mod) (hW : gW g A ad np u v H) (hq : gv np q) (hg : gi q = (74, 14)) (hz : gr u v q = z) (hdg : decode cc pc = .ok (.getfield 131, 3)) (kk : W p l e R s m args below meth c H locs cells slots Q (F0 m (pc + 3) ls (.int z :: rest))) : W p l e R s m args below meth c H locs cells slots Q (F0 m pc ls (.ref (ad 74) :: rest)) := gy_gi (C := R_Mod) (T := F_Mod) (N := 37) (ci := 7) (fs := gf7 ad) (own := R_Mod) (ref := R_Mod) (index := 131) (j := 14) X.1.1 X.1.2.1 X.1.2.2.2.2 uin_Mod X.1.2.2.2.1 X.2.1 rfl (by decide) (X.1.2.2.2.2 _ (gWG_in (List.mem_append_right _ q514) rfl)) (fun _ h => h) (fun _ => rfl) hW (by omega) (fun σ τ => ge_7 rfl σ τ) hq hg hz hdg kk
theorem pf_Mod_131 {q : Nat × Nat × Nat} {z : Int32} (X : gcx g A p s m args c cc nL R_Mod) (hW : gW g A ad np u v H) (hS : va_S A s.heap H locs) (hq : gv np q) (hg : gi q = (74, 14)) (hn : narrow (.int) (.int z) = .int z) (hfit : fits (.int) (.int z) = true) (hdg : decode cc pc = .ok (.putfield 131, 3)) (kk : ∀ (H1 : Heap) (locs1 : List Loc), gW g A ad np (gx u v q z).1 (gx u v q z).2 H1 → va_S A s.heap H1 locs1 → W p l e R s m args below meth c H1 locs1 cells slots Q (F0 m (pc + 3) ls rest)) : W p l e R s m args below meth c H locs cells slots Q (F0 m pc ls (.int z :: .ref (ad 74) :: rest)) := gy_pi (C := R_Mod) (T := F_Mod) (N := 37) (ci := 7) (fs := gf7 ad) (own := R_Mod) (ref := R_Mod) (index := 131) (j := 14) (ty := .int) X.1.1 X.1.2.1 X.1.2.2.2.2 uin_Mod t_Mod t_Mod_ok n_Mod X.1.2.2.2.1 X.2.1 rfl (by decide) (X.1.2.2.2.2 _ (gWG_in (List.mem_append_right _ q514) rfl)) (fun _ h => h) rfl rfl (fun _ => (by show 14 < 37; decide)) (fun r x => rfl) hW hS (by omega) (fun σ τ => ge_7 rfl σ τ) hq hg hn hfit hdg kk
theorem gf_Mod_111 {q : Nat × Nat × Nat} {z : Int32} (X : gcx g A p s m args c cc nL R_Mod) (hW : gW g A ad np u v H) (hq : gv np q) (hg : gi q = (74, 15)) (hz : gr u v q = z) (hdg : decode cc pc = .ok (.getfield 111, 3)) (kk : W p l e R s m args below meth c H locs cells slots Q (F0 m (pc + 3) ls (.int z :: rest))) : W p l e R s m args below meth c H locs cells slots Q (F0 m pc ls (.ref (ad 74) :: rest)) := gy_gi (C := R_Mod) (T := F_Mod) (N := 37) (ci := 7) (fs := gf7 ad) (own := R_Mod) (ref := R_Mod) (index := 111) (j := 15) X.1.1 X.1.2.1 X.1.2.2.2.2 uin_Mod X.1.2.2.2.1 X.2.1 rfl (by decide) (X.1.2.2.2.2 _ (gWG_in (List.mem_append_right _ q515) rfl)) (fun _ h => h) (fun _ => rfl) hW (by omega) (fun σ τ => ge_7 rfl σ τ) hq hg hz hdg kk
theorem pf_Mod_111 {q : Nat × Nat × Nat} {z : Int32} (X : gcx g A p s m args c cc nL R_Mod) (hW : gW g A ad np u v H) (hS : va_S A s.heap H locs) (hq : gv np q) (hg : gi q = (74, 15)) (hn : narrow (.int) (.int z) = .int z) (hfit : fits (.int) (.int z) = true) (hdg : decode cc pc = .ok (.putfield 111, 3)) (kk : ∀ (H1 : Heap) (locs1 : List Loc), gW g A ad np (gx u v q z).1 (gx u v q z).2 H1 → va_S A s.heap H1 locs1 → W p l e R s m args below meth c H1 locs1 cells slots Q (F0 m (pc + 3) ls rest)) : W p l e R s m args below meth c H locs cells slots Q (F0 m pc ls (.int z :: .ref (ad 74) :: rest)) := gy_pi (C := R_Mod) (T := F_Mod) (N := 37) (ci := 7) (fs := gf7 ad) (own := R_Mod) (ref := R_Mod) (index := 111) (j := 15) (ty := .int) X.1.1 X.1.2.1 X.1.2.2.2.2 uin_Mod t_Mod t_Mod_ok n_Mod X.1.2.2.2.1 X.2.1 rfl (by decide) (X.1.2.2.2.2 _ (gWG_in (List.mem_append_right _ q515) rfl)) (fun _ h => h) rfl rfl (fun _ => (by show 15 < 37; decide)) (fun r x => rfl) hW hS (by omega) (fun σ τ => ge_7 rfl σ τ) hq hg hn hfit hdg kk
theorem gf_Mod_98 {q : Nat × Nat × Nat} {z : Int32} (X : gcx g A p s m args c cc nL R_Mod) (hW : gW g A ad np u v H) (hq : gv np q) (hg : gi q = (74, 16)) (hz : gr u v q = z) (hdg : decode cc pc = .ok (.getfield 98, 3)) (kk : W p l e R s m args below meth c H locs cells slots Q (F0 m (pc + 3) ls (.int z :: rest))) : W p l e R s m args below meth c H locs cells slots Q (F0 m pc ls (.ref (ad 74) :: rest)) := gy_gi (C := R_Mod) (T := F_Mod) (N := 37) (ci := 7) (fs := gf7 ad) (own := R_Mod) (ref := R_Mod) (index := 98) (j := 16) X.1.1 X.1.2.1 X.1.2.2.2.2 uin_Mod X.1.2.2.2.1 X.2.1 rfl (by decide) (X.1.2.2.2.2 _ (gWG_in (List.mem_append_right _ q516) rfl)) (fun _ h => h) (fun _ => rfl) hW (by omega) (fun σ τ => ge_7 rfl σ τ) hq hg hz hdg kk
theorem pf_Mod_98 {q : Nat × Nat × Nat} {z : Int32} (X : gcx g A p s m args c cc nL R_Mod) (hW : gW g A ad np u v H) (hS : va_S A s.heap H locs) (hq : gv np q) (hg : gi q = (74, 16)) (hn : narrow (.int) (.int z) = .int z) (hfit : fits (.int) (.int z) = true) (hdg : decode cc pc = .ok (.putfield 98, 3)) (kk : ∀ (H1 : Heap) (locs1 : List Loc), gW g A ad np (gx u v q z).1 (gx u v q z).2 H1 → va_S A s.heap H1 locs1 → W p l e R s m args below meth c H1 locs1 cells slots Q (F0 m (pc + 3) ls rest)) : W p l e R s m args below meth c H locs cells slots Q (F0 m pc ls (.int z :: .ref (ad 74) :: rest)) := gy_pi (C := R_Mod) (T := F_Mod) (N := 37) (ci := 7) (fs := gf7 ad) (own := R_Mod) (ref := R_Mod) (index := 98) (j := 16) (ty := .int) X.1.1 X.1.2.1 X.1.2.2.2.2 uin_Mod t_Mod t_Mod_ok n_Mod X.1.2.2.2.1 X.2.1 rfl (by decide) (X.1.2.2.2.2 _ (gWG_in (List.mem_append_right _ q516) rfl)) (fun _ h => h) rfl rfl (fun _ => (by show 16 < 37; decide)) (fun r x => rfl) hW hS (by omega) (fun σ τ => ge_7 rfl σ τ) hq hg hn hfit hdg kk
theorem gf_Mod_141 {q : Nat × Nat × Nat} {z : Int32} (X : gcx g A p s m args c cc nL R_Mod) (hW : gW g A ad np u v H) (hq : gv np q) (hg : gi q = (74, 17)) (hz : gr u v q = z) (hdg : decode cc pc = .ok (.getfield 141, 3)) (kk : W p l e R s m args below meth c H locs cells slots Q (F0 m (pc + 3) ls (.int z :: rest))) : W p l e R s m args below meth c H locs cells slots Q (F0 m pc ls (.ref (ad 74) :: rest)) := gy_gi (C := R_Mod) (T := F_Mod) (N := 37) (ci := 7) (fs := gf7 ad) (own := R_Mod) (ref := R_Mod) (index := 141) (j := 17) X.1.1 X.1.2.1 X.1.2.2.2.2 uin_Mod X.1.2.2.2.1 X.2.1 rfl (by decide) (X.1.2.2.2.2 _ (gWG_in (List.mem_append_right _ q517) rfl)) (fun _ h => h) (fun _ => rfl) hW (by omega) (fun σ τ => ge_7 rfl σ τ) hq hg hz hdg kk
theorem pf_Mod_141 {q : Nat × Nat × Nat} {z : Int32} (X : gcx g A p s m args c cc nL R_Mod) (hW : gW g A ad np u v H) (hS : va_S A s.heap H locs) (hq : gv np q) (hg : gi q = (74, 17)) (hn : narrow (.int) (.int z) = .int z) (hfit : fits (.int) (.int z) = true) (hdg : decode cc pc = .ok (.putfield 141, 3)) (kk : ∀ (H1 : Heap) (locs1 : List Loc), gW g A ad np (gx u v q z).1 (gx u v q z).2 H1 → va_S A s.heap H1 locs1 → W p l e R s m args below meth c H1 locs1 cells slots Q (F0 m (pc + 3) ls rest)) : W p l e R s m args below meth c H locs cells slots Q (F0 m pc ls (.int z :: .ref (ad 74) :: rest)) := gy_pi (C := R_Mod) (T := F_Mod) (N := 37) (ci := 7) (fs := gf7 ad) (own := R_Mod) (ref := R_Mod) (index := 141) (j := 17) (ty := .int) X.1.1 X.1.2.1 X.1.2.2.2.2 uin_Mod t_Mod t_Mod_ok n_Mod X.1.2.2.2.1 X.2.1 rfl (by decide) (X.1.2.2.2.2 _ (gWG_in (List.mem_append_right _ q517) rfl)) (fun _ h => h) rfl rfl (fun _ => (by show 17 < 37; decide)) (fun r x => rfl) hW hS (by omega) (fun σ τ => ge_7 rfl σ τ) hq hg hn hfit hdg kk
theorem gf_Mod_44 (X : gcx g A p s m args c cc nL R_Mod) (hW : gW g A ad np u v H) (hdg : decode cc pc = .ok (.getfield 44, 3)) (kk : W p l e R s m args below meth c H locs cells slots Q (F0 m (pc + 3) ls (.ref (ad (86)) :: rest))) : W p l e R s m args below meth c H locs cells slots Q (F0 m pc ls (.ref (ad 74) :: rest)) := gy_gr (t := 86) (C := R_Mod) (T := F_Mod) (N := 37) (ci := 7) (fs := gf7 ad) (own := R_Mod) (ref := R_Mod) (index := 44) (j := 18) X.1.1 X.1.2.1 X.1.2.2.2.2 uin_Mod X.1.2.2.2.1 X.2.1 rfl (by decide) (X.1.2.2.2.2 _ (gWG_in (List.mem_append_right _ q518) rfl)) (fun _ h => h) (fun _ => rfl) hW (by omega) (fun σ τ => ge_7 rfl σ τ) hdg kk
theorem gf_Mod_47 (X : gcx g A p s m args c cc nL R_Mod) (hW : gW g A ad np u v H) (hdg : decode cc pc = .ok (.getfield 47, 3)) (kk : W p l e R s m args below meth c H locs cells slots Q (F0 m (pc + 3) ls (.ref (ad (87)) :: rest))) : W p l e R s m args below meth c H locs cells slots Q (F0 m pc ls (.ref (ad 74) :: rest)) := gy_gr (t := 87) (C := R_Mod) (T := F_Mod) (N := 37) (ci := 7) (fs := gf7 ad) (own := R_Mod) (ref := R_Mod) (index := 47) (j := 19) X.1.1 X.1.2.1 X.1.2.2.2.2 uin_Mod X.1.2.2.2.1 X.2.1 rfl (by decide) (X.1.2.2.2.2 _ (gWG_in (List.mem_append_right _ q519) rfl)) (fun _ h => h) (fun _ => rfl) hW (by omega) (fun σ τ => ge_7 rfl σ τ) hdg kk
theorem gf_Mod_120 {q : Nat × Nat × Nat} {z : Int32} (X : gcx g A p s m args c cc nL R_Mod) (hW : gW g A ad np u v H) (hq : gv np q) (hg : gi q = (74, 20)) (hz : gr u v q = z) (hdg : decode cc pc = .ok (.getfield 120, 3)) (kk : W p l e R s m args below meth c H locs cells slots Q (F0 m (pc + 3) ls (.int z :: rest))) : W p l e R s m args below meth c H locs cells slots Q (F0 m pc ls (.ref (ad 74) :: rest)) := gy_gi (C := R_Mod) (T := F_Mod) (N := 37) (ci := 7) (fs := gf7 ad) (own := R_Mod) (ref := R_Mod) (index := 120) (j := 20) X.1.1 X.1.2.1 X.1.2.2.2.2 uin_Mod X.1.2.2.2.1 X.2.1 rfl (by decide) (X.1.2.2.2.2 _ (gWG_in (List.mem_append_right _ q520) rfl)) (fun _ h => h) (fun _ => rfl) hW (by omega) (fun σ τ => ge_7 rfl σ τ) hq hg hz hdg kk
theorem pf_Mod_120 {q : Nat × Nat × Nat} {z : Int32} (X : gcx g A p s m args c cc nL R_Mod) (hW : gW g A ad np u v H) (hS : va_S A s.heap H locs) (hq : gv np q) (hg : gi q = (74, 20)) (hn : narrow (.int) (.int z) = .int z) (hfit : fits (.int) (.int z) = true) (hdg : decode cc pc = .ok (.putfield 120, 3)) (kk : ∀ (H1 : Heap) (locs1 : List Loc), gW g A ad np (gx u v q z).1 (gx u v q z).2 H1 → va_S A s.heap H1 locs1 → W p l e R s m args below meth c H1 locs1 cells slots Q (F0 m (pc + 3) ls rest)) : W p l e R s m args below meth c H locs cells slots Q (F0 m pc ls (.int z :: .ref (ad 74) :: rest)) := gy_pi (C := R_Mod) (T := F_Mod) (N := 37) (ci := 7) (fs := gf7 ad) (own := R_Mod) (ref := R_Mod) (index := 120) (j := 20) (ty := .int) X.1.1 X.1.2.1 X.1.2.2.2.2 uin_Mod t_Mod t_Mod_ok n_Mod X.1.2.2.2.1 X.2.1 rfl (by decide) (X.1.2.2.2.2 _ (gWG_in (List.mem_append_right _ q520) rfl)) (fun _ h => h) rfl rfl (fun _ => (by show 20 < 37; decide)) (fun r x => rfl) hW hS (by omega) (fun σ τ => ge_7 rfl σ τ) hq hg hn hfit hdg kk
theorem gf_Mod_117 {q : Nat × Nat × Nat} {z : Int32} (X : gcx g A p s m args c cc nL R_Mod) (hW : gW g A ad np u v H) (hq : gv np q) (hg : gi q = (74, 21)) (hz : gr u v q = z) (hdg : decode cc pc = .ok (.getfield 117, 3)) (kk : W p l e R s m args below meth c H locs cells slots Q (F0 m (pc + 3) ls (.int z :: rest))) : W p l e R s m args below meth c H locs cells slots Q (F0 m pc ls (.ref (ad 74) :: rest)) := gy_gi (C := R_Mod) (T := F_Mod) (N := 37) (ci := 7) (fs := gf7 ad) (own := R_Mod) (ref := R_Mod) (index := 117) (j := 21) X.1.1 X.1.2.1 X.1.2.2.2.2 uin_Mod X.1.2.2.2.1 X.2.1 rfl (by decide) (X.1.2.2.2.2 _ (gWG_in (List.mem_append_right _ q521) rfl)) (fun _ h => h) (fun _ => rfl) hW (by omega) (fun σ τ => ge_7 rfl σ τ) hq hg hz hdg kk
theorem pf_Mod_117 {q : Nat × Nat × Nat} {z : Int32} (X : gcx g A p s m args c cc nL R_Mod) (hW : gW g A ad np u v H) (hS : va_S A s.heap H locs) (hq : gv np q) (hg : gi q = (74, 21)) (hn : narrow (.int) (.int z) = .int z) (hfit : fits (.int) (.int z) = true) (hdg : decode cc pc = .ok (.putfield 117, 3)) (kk : ∀ (H1 : Heap) (locs1 : List Loc), gW g A ad np (gx u v q z).1 (gx u v q z).2 H1 → va_S A s.heap H1 locs1 → W p l e R s m args below meth c H1 locs1 cells slots Q (F0 m (pc + 3) ls rest)) : W p l e R s m args below meth c H locs cells slots Q (F0 m pc ls (.int z :: .ref (ad 74) :: rest)) := gy_pi (C := R_Mod) (T := F_Mod) (N := 37) (ci := 7) (fs := gf7 ad) (own := R_Mod) (ref := R_Mod) (index := 117) (j := 21) (ty := .int) X.1.1 X.1.2.1 X.1.2.2.2.2 uin_Mod t_Mod t_Mod_ok n_Mod X.1.2.2.2.1 X.2.1 rfl (by decide) (X.1.2.2.2.2 _ (gWG_in (List.mem_append_right _ q521) rfl)) (fun _ h => h) rfl rfl (fun _ => (by show 21 < 37; decide)) (fun r x => rfl) hW hS (by omega) (fun σ τ => ge_7 rfl σ τ) hq hg hn hfit hdg kk
theorem gf_Mod_50 (X : gcx g A p s m args c cc nL R_Mod) (hW : gW g A ad np u v H) (hdg : decode cc pc = .ok (.getfield 50, 3)) (kk : W p l e R s m args below meth c H locs cells slots Q (F0 m (pc + 3) ls (.ref (ad (88)) :: rest))) : W p l e R s m args below meth c H locs cells slots Q (F0 m pc ls (.ref (ad 74) :: rest)) := gy_gr (t := 88) (C := R_Mod) (T := F_Mod) (N := 37) (ci := 7) (fs := gf7 ad) (own := R_Mod) (ref := R_Mod) (index := 50) (j := 22) X.1.1 X.1.2.1 X.1.2.2.2.2 uin_Mod X.1.2.2.2.1 X.2.1 rfl (by decide) (X.1.2.2.2.2 _ (gWG_in (List.mem_append_right _ q522) rfl)) (fun _ h => h) (fun _ => rfl) hW (by omega) (fun σ τ => ge_7 rfl σ τ) hdg kk
theorem gf_Mod_89 {q : Nat × Nat × Nat} {z : Int32} (X : gcx g A p s m args c cc nL R_Mod) (hW : gW g A ad np u v H) (hq : gv np q) (hg : gi q = (74, 23)) (hz : gr u v q = z) (hdg : decode cc pc = .ok (.getfield 89, 3)) (kk : W p l e R s m args below meth c H locs cells slots Q (F0 m (pc + 3) ls (.int z :: rest))) : W p l e R s m args below meth c H locs cells slots Q (F0 m pc ls (.ref (ad 74) :: rest)) := gy_gi (C := R_Mod) (T := F_Mod) (N := 37) (ci := 7) (fs := gf7 ad) (own := R_Mod) (ref := R_Mod) (index := 89) (j := 23) X.1.1 X.1.2.1 X.1.2.2.2.2 uin_Mod X.1.2.2.2.1 X.2.1 rfl (by decide) (X.1.2.2.2.2 _ (gWG_in (List.mem_append_right _ q523) rfl)) (fun _ h => h) (fun _ => rfl) hW (by omega) (fun σ τ => ge_7 rfl σ τ) hq hg hz hdg kk
theorem pf_Mod_89 {q : Nat × Nat × Nat} {z : Int32} (X : gcx g A p s m args c cc nL R_Mod) (hW : gW g A ad np u v H) (hS : va_S A s.heap H locs) (hq : gv np q) (hg : gi q = (74, 23)) (hn : narrow (.int) (.int z) = .int z) (hfit : fits (.int) (.int z) = true) (hdg : decode cc pc = .ok (.putfield 89, 3)) (kk : ∀ (H1 : Heap) (locs1 : List Loc), gW g A ad np (gx u v q z).1 (gx u v q z).2 H1 → va_S A s.heap H1 locs1 → W p l e R s m args below meth c H1 locs1 cells slots Q (F0 m (pc + 3) ls rest)) : W p l e R s m args below meth c H locs cells slots Q (F0 m pc ls (.int z :: .ref (ad 74) :: rest)) := gy_pi (C := R_Mod) (T := F_Mod) (N := 37) (ci := 7) (fs := gf7 ad) (own := R_Mod) (ref := R_Mod) (index := 89) (j := 23) (ty := .int) X.1.1 X.1.2.1 X.1.2.2.2.2 uin_Mod t_Mod t_Mod_ok n_Mod X.1.2.2.2.1 X.2.1 rfl (by decide) (X.1.2.2.2.2 _ (gWG_in (List.mem_append_right _ q523) rfl)) (fun _ h => h) rfl rfl (fun _ => (by show 23 < 37; decide)) (fun r x => rfl) hW hS (by omega) (fun σ τ => ge_7 rfl σ τ) hq hg hn hfit hdg kk
theorem gf_Mod_53 (X : gcx g A p s m args c cc nL R_Mod) (hW : gW g A ad np u v H) (hdg : decode cc pc = .ok (.getfield 53, 3)) (kk : W p l e R s m args below meth c H locs cells slots Q (F0 m (pc + 3) ls (.ref (ad (89)) :: rest))) : W p l e R s m args below meth c H locs cells slots Q (F0 m pc ls (.ref (ad 74) :: rest)) := gy_gr (t := 89) (C := R_Mod) (T := F_Mod) (N := 37) (ci := 7) (fs := gf7 ad) (own := R_Mod) (ref := R_Mod) (index := 53) (j := 24) X.1.1 X.1.2.1 X.1.2.2.2.2 uin_Mod X.1.2.2.2.1 X.2.1 rfl (by decide) (X.1.2.2.2.2 _ (gWG_in (List.mem_append_right _ q524) rfl)) (fun _ h => h) (fun _ => rfl) hW (by omega) (fun σ τ => ge_7 rfl σ τ) hdg kk
theorem gf_Mod_114 {q : Nat × Nat × Nat} {z : Int32} (X : gcx g A p s m args c cc nL R_Mod) (hW : gW g A ad np u v H) (hq : gv np q) (hg : gi q = (74, 25)) (hz : gr u v q = z) (hdg : decode cc pc = .ok (.getfield 114, 3)) (kk : W p l e R s m args below meth c H locs cells slots Q (F0 m (pc + 3) ls (.int z :: rest))) : W p l e R s m args below meth c H locs cells slots Q (F0 m pc ls (.ref (ad 74) :: rest)) := gy_gi (C := R_Mod) (T := F_Mod) (N := 37) (ci := 7) (fs := gf7 ad) (own := R_Mod) (ref := R_Mod) (index := 114) (j := 25) X.1.1 X.1.2.1 X.1.2.2.2.2 uin_Mod X.1.2.2.2.1 X.2.1 rfl (by decide) (X.1.2.2.2.2 _ (gWG_in (List.mem_append_right _ q525) rfl)) (fun _ h => h) (fun _ => rfl) hW (by omega) (fun σ τ => ge_7 rfl σ τ) hq hg hz hdg kk
theorem pf_Mod_114 {q : Nat × Nat × Nat} {z : Int32} (X : gcx g A p s m args c cc nL R_Mod) (hW : gW g A ad np u v H) (hS : va_S A s.heap H locs) (hq : gv np q) (hg : gi q = (74, 25)) (hn : narrow (.int) (.int z) = .int z) (hfit : fits (.int) (.int z) = true) (hdg : decode cc pc = .ok (.putfield 114, 3)) (kk : ∀ (H1 : Heap) (locs1 : List Loc), gW g A ad np (gx u v q z).1 (gx u v q z).2 H1 → va_S A s.heap H1 locs1 → W p l e R s m args below meth c H1 locs1 cells slots Q (F0 m (pc + 3) ls rest)) : W p l e R s m args below meth c H locs cells slots Q (F0 m pc ls (.int z :: .ref (ad 74) :: rest)) := gy_pi (C := R_Mod) (T := F_Mod) (N := 37) (ci := 7) (fs := gf7 ad) (own := R_Mod) (ref := R_Mod) (index := 114) (j := 25) (ty := .int) X.1.1 X.1.2.1 X.1.2.2.2.2 uin_Mod t_Mod t_Mod_ok n_Mod X.1.2.2.2.1 X.2.1 rfl (by decide) (X.1.2.2.2.2 _ (gWG_in (List.mem_append_right _ q525) rfl)) (fun _ h => h) rfl rfl (fun _ => (by show 25 < 37; decide)) (fun r x => rfl) hW hS (by omega) (fun σ τ => ge_7 rfl σ τ) hq hg hn hfit hdg kk
theorem gf_Mod_95 {q : Nat × Nat × Nat} {z : Int32} (X : gcx g A p s m args c cc nL R_Mod) (hW : gW g A ad np u v H) (hq : gv np q) (hg : gi q = (74, 26)) (hz : gr u v q = z) (hdg : decode cc pc = .ok (.getfield 95, 3)) (kk : W p l e R s m args below meth c H locs cells slots Q (F0 m (pc + 3) ls (.int z :: rest))) : W p l e R s m args below meth c H locs cells slots Q (F0 m pc ls (.ref (ad 74) :: rest)) := gy_gi (C := R_Mod) (T := F_Mod) (N := 37) (ci := 7) (fs := gf7 ad) (own := R_Mod) (ref := R_Mod) (index := 95) (j := 26) X.1.1 X.1.2.1 X.1.2.2.2.2 uin_Mod X.1.2.2.2.1 X.2.1 rfl (by decide) (X.1.2.2.2.2 _ (gWG_in (List.mem_append_right _ q526) rfl)) (fun _ h => h) (fun _ => rfl) hW (by omega) (fun σ τ => ge_7 rfl σ τ) hq hg hz hdg kk
theorem pf_Mod_95 {q : Nat × Nat × Nat} {z : Int32} (X : gcx g A p s m args c cc nL R_Mod) (hW : gW g A ad np u v H) (hS : va_S A s.heap H locs) (hq : gv np q) (hg : gi q = (74, 26)) (hn : narrow (.int) (.int z) = .int z) (hfit : fits (.int) (.int z) = true) (hdg : decode cc pc = .ok (.putfield 95, 3)) (kk : ∀ (H1 : Heap) (locs1 : List Loc), gW g A ad np (gx u v q z).1 (gx u v q z).2 H1 → va_S A s.heap H1 locs1 → W p l e R s m args below meth c H1 locs1 cells slots Q (F0 m (pc + 3) ls rest)) : W p l e R s m args below meth c H locs cells slots Q (F0 m pc ls (.int z :: .ref (ad 74) :: rest)) := gy_pi (C := R_Mod) (T := F_Mod) (N := 37) (ci := 7) (fs := gf7 ad) (own := R_Mod) (ref := R_Mod) (index := 95) (j := 26) (ty := .int) X.1.1 X.1.2.1 X.1.2.2.2.2 uin_Mod t_Mod t_Mod_ok n_Mod X.1.2.2.2.1 X.2.1 rfl (by decide) (X.1.2.2.2.2 _ (gWG_in (List.mem_append_right _ q526) rfl)) (fun _ h => h) rfl rfl (fun _ => (by show 26 < 37; decide)) (fun r x => rfl) hW hS (by omega) (fun σ τ => ge_7 rfl σ τ) hq hg hn hfit hdg kk
theorem gf_Mod_56 (X : gcx g A p s m args c cc nL R_Mod) (hW : gW g A ad np u v H) (hdg : decode cc pc = .ok (.getfield 56, 3)) (kk : W p l e R s m args below meth c H locs cells slots Q (F0 m (pc + 3) ls (.ref (ad (90)) :: rest))) : W p l e R s m args below meth c H locs cells slots Q (F0 m pc ls (.ref (ad 74) :: rest)) := gy_gr (t := 90) (C := R_Mod) (T := F_Mod) (N := 37) (ci := 7) (fs := gf7 ad) (own := R_Mod) (ref := R_Mod) (index := 56) (j := 27) X.1.1 X.1.2.1 X.1.2.2.2.2 uin_Mod X.1.2.2.2.1 X.2.1 rfl (by decide) (X.1.2.2.2.2 _ (gWG_in (List.mem_append_right _ q527) rfl)) (fun _ h => h) (fun _ => rfl) hW (by omega) (fun σ τ => ge_7 rfl σ τ) hdg kk
theorem gf_Mod_101 {q : Nat × Nat × Nat} {z : Int32} (X : gcx g A p s m args c cc nL R_Mod) (hW : gW g A ad np u v H) (hq : gv np q) (hg : gi q = (74, 28)) (hz : gr u v q = z) (hdg : decode cc pc = .ok (.getfield 101, 3)) (kk : W p l e R s m args below meth c H locs cells slots Q (F0 m (pc + 3) ls (.int z :: rest))) : W p l e R s m args below meth c H locs cells slots Q (F0 m pc ls (.ref (ad 74) :: rest)) := gy_gi (C := R_Mod) (T := F_Mod) (N := 37) (ci := 7) (fs := gf7 ad) (own := R_Mod) (ref := R_Mod) (index := 101) (j := 28) X.1.1 X.1.2.1 X.1.2.2.2.2 uin_Mod X.1.2.2.2.1 X.2.1 rfl (by decide) (X.1.2.2.2.2 _ (gWG_in (List.mem_append_right _ q528) rfl)) (fun _ h => h) (fun _ => rfl) hW (by omega) (fun σ τ => ge_7 rfl σ τ) hq hg hz hdg kk
theorem pf_Mod_101 {q : Nat × Nat × Nat} {z : Int32} (X : gcx g A p s m args c cc nL R_Mod) (hW : gW g A ad np u v H) (hS : va_S A s.heap H locs) (hq : gv np q) (hg : gi q = (74, 28)) (hn : narrow (.int) (.int z) = .int z) (hfit : fits (.int) (.int z) = true) (hdg : decode cc pc = .ok (.putfield 101, 3)) (kk : ∀ (H1 : Heap) (locs1 : List Loc), gW g A ad np (gx u v q z).1 (gx u v q z).2 H1 → va_S A s.heap H1 locs1 → W p l e R s m args below meth c H1 locs1 cells slots Q (F0 m (pc + 3) ls rest)) : W p l e R s m args below meth c H locs cells slots Q (F0 m pc ls (.int z :: .ref (ad 74) :: rest)) := gy_pi (C := R_Mod) (T := F_Mod) (N := 37) (ci := 7) (fs := gf7 ad) (own := R_Mod) (ref := R_Mod) (index := 101) (j := 28) (ty := .int) X.1.1 X.1.2.1 X.1.2.2.2.2 uin_Mod t_Mod t_Mod_ok n_Mod X.1.2.2.2.1 X.2.1 rfl (by decide) (X.1.2.2.2.2 _ (gWG_in (List.mem_append_right _ q528) rfl)) (fun _ h => h) rfl rfl (fun _ => (by show 28 < 37; decide)) (fun r x => rfl) hW hS (by omega) (fun σ τ => ge_7 rfl σ τ) hq hg hn hfit hdg kk
theorem gf_Mod_147 {q : Nat × Nat × Nat} {z : Int32} (X : gcx g A p s m args c cc nL R_Mod) (hW : gW g A ad np u v H) (hq : gv np q) (hg : gi q = (74, 29)) (hz : gr u v q = z) (hdg : decode cc pc = .ok (.getfield 147, 3)) (kk : W p l e R s m args below meth c H locs cells slots Q (F0 m (pc + 3) ls (.int z :: rest))) : W p l e R s m args below meth c H locs cells slots Q (F0 m pc ls (.ref (ad 74) :: rest)) := gy_gi (C := R_Mod) (T := F_Mod) (N := 37) (ci := 7) (fs := gf7 ad) (own := R_Mod) (ref := R_Mod) (index := 147) (j := 29) X.1.1 X.1.2.1 X.1.2.2.2.2 uin_Mod X.1.2.2.2.1 X.2.1 rfl (by decide) (X.1.2.2.2.2 _ (gWG_in (List.mem_append_right _ q529) rfl)) (fun _ h => h) (fun _ => rfl) hW (by omega) (fun σ τ => ge_7 rfl σ τ) hq hg hz hdg kk
theorem pf_Mod_147 {q : Nat × Nat × Nat} {z : Int32} (X : gcx g A p s m args c cc nL R_Mod) (hW : gW g A ad np u v H) (hS : va_S A s.heap H locs) (hq : gv np q) (hg : gi q = (74, 29)) (hn : narrow (.int) (.int z) = .int z) (hfit : fits (.int) (.int z) = true) (hdg : decode cc pc = .ok (.putfield 147, 3)) (kk : ∀ (H1 : Heap) (locs1 : List Loc), gW g A ad np (gx u v q z).1 (gx u v q z).2 H1 → va_S A s.heap H1 locs1 → W p l e R s m args below meth c H1 locs1 cells slots Q (F0 m (pc + 3) ls rest)) : W p l e R s m args below meth c H locs cells slots Q (F0 m pc ls (.int z :: .ref (ad 74) :: rest)) := gy_pi (C := R_Mod) (T := F_Mod) (N := 37) (ci := 7) (fs := gf7 ad) (own := R_Mod) (ref := R_Mod) (index := 147) (j := 29) (ty := .int) X.1.1 X.1.2.1 X.1.2.2.2.2 uin_Mod t_Mod t_Mod_ok n_Mod X.1.2.2.2.1 X.2.1 rfl (by decide) (X.1.2.2.2.2 _ (gWG_in (List.mem_append_right _ q529) rfl)) (fun _ h => h) rfl rfl (fun _ => (by show 29 < 37; decide)) (fun r x => rfl) hW hS (by omega) (fun σ τ => ge_7 rfl σ τ) hq hg hn hfit hdg kk
theorem gf_Mod_150 {q : Nat × Nat × Nat} {z : Int32} (X : gcx g A p s m args c cc nL R_Mod) (hW : gW g A ad np u v H) (hq : gv np q) (hg : gi q = (74, 30)) (hz : gr u v q = z) (hdg : decode cc pc = .ok (.getfield 150, 3)) (kk : W p l e R s m args below meth c H locs cells slots Q (F0 m (pc + 3) ls (.int z :: rest))) : W p l e R s m args below meth c H locs cells slots Q (F0 m pc ls (.ref (ad 74) :: rest)) := gy_gi (C := R_Mod) (T := F_Mod) (N := 37) (ci := 7) (fs := gf7 ad) (own := R_Mod) (ref := R_Mod) (index := 150) (j := 30) X.1.1 X.1.2.1 X.1.2.2.2.2 uin_Mod X.1.2.2.2.1 X.2.1 rfl (by decide) (X.1.2.2.2.2 _ (gWG_in (List.mem_append_right _ q530) rfl)) (fun _ h => h) (fun _ => rfl) hW (by omega) (fun σ τ => ge_7 rfl σ τ) hq hg hz hdg kk
theorem pf_Mod_150 {q : Nat × Nat × Nat} {z : Int32} (X : gcx g A p s m args c cc nL R_Mod) (hW : gW g A ad np u v H) (hS : va_S A s.heap H locs) (hq : gv np q) (hg : gi q = (74, 30)) (hn : narrow (.int) (.int z) = .int z) (hfit : fits (.int) (.int z) = true) (hdg : decode cc pc = .ok (.putfield 150, 3)) (kk : ∀ (H1 : Heap) (locs1 : List Loc), gW g A ad np (gx u v q z).1 (gx u v q z).2 H1 → va_S A s.heap H1 locs1 → W p l e R s m args below meth c H1 locs1 cells slots Q (F0 m (pc + 3) ls rest)) : W p l e R s m args below meth c H locs cells slots Q (F0 m pc ls (.int z :: .ref (ad 74) :: rest)) := gy_pi (C := R_Mod) (T := F_Mod) (N := 37) (ci := 7) (fs := gf7 ad) (own := R_Mod) (ref := R_Mod) (index := 150) (j := 30) (ty := .int) X.1.1 X.1.2.1 X.1.2.2.2.2 uin_Mod t_Mod t_Mod_ok n_Mod X.1.2.2.2.1 X.2.1 rfl (by decide) (X.1.2.2.2.2 _ (gWG_in (List.mem_append_right _ q530) rfl)) (fun _ h => h) rfl rfl (fun _ => (by show 30 < 37; decide)) (fun r x => rfl) hW hS (by omega) (fun σ τ => ge_7 rfl σ τ) hq hg hn hfit hdg kk
theorem gf_Mod_153 {q : Nat × Nat × Nat} {z : Int32} (X : gcx g A p s m args c cc nL R_Mod) (hW : gW g A ad np u v H) (hq : gv np q) (hg : gi q = (74, 31)) (hz : gr u v q = z) (hdg : decode cc pc = .ok (.getfield 153, 3)) (kk : W p l e R s m args below meth c H locs cells slots Q (F0 m (pc + 3) ls (.int z :: rest))) : W p l e R s m args below meth c H locs cells slots Q (F0 m pc ls (.ref (ad 74) :: rest)) := gy_gi (C := R_Mod) (T := F_Mod) (N := 37) (ci := 7) (fs := gf7 ad) (own := R_Mod) (ref := R_Mod) (index := 153) (j := 31) X.1.1 X.1.2.1 X.1.2.2.2.2 uin_Mod X.1.2.2.2.1 X.2.1 rfl (by decide) (X.1.2.2.2.2 _ (gWG_in (List.mem_append_right _ q531) rfl)) (fun _ h => h) (fun _ => rfl) hW (by omega) (fun σ τ => ge_7 rfl σ τ) hq hg hz hdg kk
theorem pf_Mod_153 {q : Nat × Nat × Nat} {z : Int32} (X : gcx g A p s m args c cc nL R_Mod) (hW : gW g A ad np u v H) (hS : va_S A s.heap H locs) (hq : gv np q) (hg : gi q = (74, 31)) (hn : narrow (.int) (.int z) = .int z) (hfit : fits (.int) (.int z) = true) (hdg : decode cc pc = .ok (.putfield 153, 3)) (kk : ∀ (H1 : Heap) (locs1 : List Loc), gW g A ad np (gx u v q z).1 (gx u v q z).2 H1 → va_S A s.heap H1 locs1 → W p l e R s m args below meth c H1 locs1 cells slots Q (F0 m (pc + 3) ls rest)) : W p l e R s m args below meth c H locs cells slots Q (F0 m pc ls (.int z :: .ref (ad 74) :: rest)) := gy_pi (C := R_Mod) (T := F_Mod) (N := 37) (ci := 7) (fs := gf7 ad) (own := R_Mod) (ref := R_Mod) (index := 153) (j := 31) (ty := .int) X.1.1 X.1.2.1 X.1.2.2.2.2 uin_Mod t_Mod t_Mod_ok n_Mod X.1.2.2.2.1 X.2.1 rfl (by decide) (X.1.2.2.2.2 _ (gWG_in (List.mem_append_right _ q531) rfl)) (fun _ h => h) rfl rfl (fun _ => (by show 31 < 37; decide)) (fun r x => rfl) hW hS (by omega) (fun σ τ => ge_7 rfl σ τ) hq hg hn hfit hdg kk
theorem gf_Mod_156 {q : Nat × Nat × Nat} {z : Int32} (X : gcx g A p s m args c cc nL R_Mod) (hW : gW g A ad np u v H) (hq : gv np q) (hg : gi q = (74, 32)) (hz : gr u v q = z) (hdg : decode cc pc = .ok (.getfield 156, 3)) (kk : W p l e R s m args below meth c H locs cells slots Q (F0 m (pc + 3) ls (.int z :: rest))) : W p l e R s m args below meth c H locs cells slots Q (F0 m pc ls (.ref (ad 74) :: rest)) := gy_gi (C := R_Mod) (T := F_Mod) (N := 37) (ci := 7) (fs := gf7 ad) (own := R_Mod) (ref := R_Mod) (index := 156) (j := 32) X.1.1 X.1.2.1 X.1.2.2.2.2 uin_Mod X.1.2.2.2.1 X.2.1 rfl (by decide) (X.1.2.2.2.2 _ (gWG_in (List.mem_append_right _ q532) rfl)) (fun _ h => h) (fun _ => rfl) hW (by omega) (fun σ τ => ge_7 rfl σ τ) hq hg hz hdg kk
theorem pf_Mod_156 {q : Nat × Nat × Nat} {z : Int32} (X : gcx g A p s m args c cc nL R_Mod) (hW : gW g A ad np u v H) (hS : va_S A s.heap H locs) (hq : gv np q) (hg : gi q = (74, 32)) (hn : narrow (.int) (.int z) = .int z) (hfit : fits (.int) (.int z) = true) (hdg : decode cc pc = .ok (.putfield 156, 3)) (kk : ∀ (H1 : Heap) (locs1 : List Loc), gW g A ad np (gx u v q z).1 (gx u v q z).2 H1 → va_S A s.heap H1 locs1 → W p l e R s m args below meth c H1 locs1 cells slots Q (F0 m (pc + 3) ls rest)) : W p l e R s m args below meth c H locs cells slots Q (F0 m pc ls (.int z :: .ref (ad 74) :: rest)) := gy_pi (C := R_Mod) (T := F_Mod) (N := 37) (ci := 7) (fs := gf7 ad) (own := R_Mod) (ref := R_Mod) (index := 156) (j := 32) (ty := .int) X.1.1 X.1.2.1 X.1.2.2.2.2 uin_Mod t_Mod t_Mod_ok n_Mod X.1.2.2.2.1 X.2.1 rfl (by decide) (X.1.2.2.2.2 _ (gWG_in (List.mem_append_right _ q532) rfl)) (fun _ h => h) rfl rfl (fun _ => (by show 32 < 37; decide)) (fun r x => rfl) hW hS (by omega) (fun σ τ => ge_7 rfl σ τ) hq hg hn hfit hdg kk
theorem gf_Mod_138 {q : Nat × Nat × Nat} {z : Int32} (X : gcx g A p s m args c cc nL R_Mod) (hW : gW g A ad np u v H) (hq : gv np q) (hg : gi q = (74, 33)) (hz : gr u v q = z) (hdg : decode cc pc = .ok (.getfield 138, 3)) (kk : W p l e R s m args below meth c H locs cells slots Q (F0 m (pc + 3) ls (.int z :: rest))) : W p l e R s m args below meth c H locs cells slots Q (F0 m pc ls (.ref (ad 74) :: rest)) := gy_gi (C := R_Mod) (T := F_Mod) (N := 37) (ci := 7) (fs := gf7 ad) (own := R_Mod) (ref := R_Mod) (index := 138) (j := 33) X.1.1 X.1.2.1 X.1.2.2.2.2 uin_Mod X.1.2.2.2.1 X.2.1 rfl (by decide) (X.1.2.2.2.2 _ (gWG_in (List.mem_append_right _ q533) rfl)) (fun _ h => h) (fun _ => rfl) hW (by omega) (fun σ τ => ge_7 rfl σ τ) hq hg hz hdg kk
theorem pf_Mod_138 {q : Nat × Nat × Nat} {z : Int32} (X : gcx g A p s m args c cc nL R_Mod) (hW : gW g A ad np u v H) (hS : va_S A s.heap H locs) (hq : gv np q) (hg : gi q = (74, 33)) (hn : narrow (.int) (.int z) = .int z) (hfit : fits (.int) (.int z) = true) (hdg : decode cc pc = .ok (.putfield 138, 3)) (kk : ∀ (H1 : Heap) (locs1 : List Loc), gW g A ad np (gx u v q z).1 (gx u v q z).2 H1 → va_S A s.heap H1 locs1 → W p l e R s m args below meth c H1 locs1 cells slots Q (F0 m (pc + 3) ls rest)) : W p l e R s m args below meth c H locs cells slots Q (F0 m pc ls (.int z :: .ref (ad 74) :: rest)) := gy_pi (C := R_Mod) (T := F_Mod) (N := 37) (ci := 7) (fs := gf7 ad) (own := R_Mod) (ref := R_Mod) (index := 138) (j := 33) (ty := .int) X.1.1 X.1.2.1 X.1.2.2.2.2 uin_Mod t_Mod t_Mod_ok n_Mod X.1.2.2.2.1 X.2.1 rfl (by decide) (X.1.2.2.2.2 _ (gWG_in (List.mem_append_right _ q533) rfl)) (fun _ h => h) rfl rfl (fun _ => (by show 33 < 37; decide)) (fun r x => rfl) hW hS (by omega) (fun σ τ => ge_7 rfl σ τ) hq hg hn hfit hdg kk
theorem gf_Mod_59 (X : gcx g A p s m args c cc nL R_Mod) (hW : gW g A ad np u v H) (hdg : decode cc pc = .ok (.getfield 59, 3)) (kk : W p l e R s m args below meth c H locs cells slots Q (F0 m (pc + 3) ls (.ref (ad (91)) :: rest))) : W p l e R s m args below meth c H locs cells slots Q (F0 m pc ls (.ref (ad 74) :: rest)) := gy_gr (t := 91) (C := R_Mod) (T := F_Mod) (N := 37) (ci := 7) (fs := gf7 ad) (own := R_Mod) (ref := R_Mod) (index := 59) (j := 34) X.1.1 X.1.2.1 X.1.2.2.2.2 uin_Mod X.1.2.2.2.1 X.2.1 rfl (by decide) (X.1.2.2.2.2 _ (gWG_in (List.mem_append_right _ q534) rfl)) (fun _ h => h) (fun _ => rfl) hW (by omega) (fun σ τ => ge_7 rfl σ τ) hdg kk
theorem gf_Mod_62 (X : gcx g A p s m args c cc nL R_Mod) (hW : gW g A ad np u v H) (hdg : decode cc pc = .ok (.getfield 62, 3)) (kk : W p l e R s m args below meth c H locs cells slots Q (F0 m (pc + 3) ls (.ref (ad (92)) :: rest))) : W p l e R s m args below meth c H locs cells slots Q (F0 m pc ls (.ref (ad 74) :: rest)) := gy_gr (t := 92) (C := R_Mod) (T := F_Mod) (N := 37) (ci := 7) (fs := gf7 ad) (own := R_Mod) (ref := R_Mod) (index := 62) (j := 35) X.1.1 X.1.2.1 X.1.2.2.2.2 uin_Mod X.1.2.2.2.1 X.2.1 rfl (by decide) (X.1.2.2.2.2 _ (gWG_in (List.mem_append_right _ q535) rfl)) (fun _ h => h) (fun _ => rfl) hW (by omega) (fun σ τ => ge_7 rfl σ τ) hdg kk
theorem gf_Mod_66 (X : gcx g A p s m args c cc nL R_Mod) (hW : gW g A ad np u v H) (hdg : decode cc pc = .ok (.getfield 66, 3)) (kk : W p l e R s m args below meth c H locs cells slots Q (F0 m (pc + 3) ls (.ref (ad (93)) :: rest))) : W p l e R s m args below meth c H locs cells slots Q (F0 m pc ls (.ref (ad 74) :: rest)) := gy_gr (t := 93) (C := R_Mod) (T := F_Mod) (N := 37) (ci := 7) (fs := gf7 ad) (own := R_Mod) (ref := R_Mod) (index := 66) (j := 36) X.1.1 X.1.2.1 X.1.2.2.2.2 uin_Mod X.1.2.2.2.1 X.2.1 rfl (by decide) (X.1.2.2.2.2 _ (gWG_in (List.mem_append_right _ q536) rfl)) (fun _ h => h) (fun _ => rfl) hW (by omega) (fun σ τ => ge_7 rfl σ τ) hdg kk
end GLK
theorem cw_PG_38 : gwV R_PG 38 y_Web_addPage b_Web_addPage 3 (some .int) 2 := ⟨gWG_in (List.mem_append_right _ q201) rfl, gWG_in (List.mem_append_right _ q202) rfl, gWG_in (List.mem_append_right _ q203) rfl, gWG_in (List.mem_append_right _ q2) rfl, gWG_in (List.mem_append_right _ q204) rfl, ⟨by decide, by decide, by decide +kernel⟩⟩
theorem cw_Web_37 : gwSN R_Web 37 y_PG_isHost "PoliteGatherer" b_PG_isHost 1 (some .boolean) 1 := ⟨gN_in (List.mem_append_right _ q205) rfl, gWG_in (List.mem_append_right _ q206) rfl, gWG_in (List.mem_append_right _ q1) rfl, gWG_in (List.mem_append_right _ q207) rfl, ⟨by decide, by decide, by decide +kernel⟩⟩
theorem cw_PG_46 : gwS R_PG 46 y_PG_isWithin b_PG_isWithin 3 (some .boolean) 3 := ⟨gWG_in (List.mem_append_right _ q208) rfl, gWG_in (List.mem_append_right _ q209) rfl, gWG_in (List.mem_append_right _ q1) rfl, gWG_in (List.mem_append_right _ q210) rfl, ⟨by decide, by decide, by decide +kernel⟩⟩
theorem cw_Web_42 : gwSN R_Web 42 y_PG_isWithin "PoliteGatherer" b_PG_isWithin 3 (some .boolean) 3 := ⟨gN_in (List.mem_append_right _ q212) rfl, gWG_in (List.mem_append_right _ q209) rfl, gWG_in (List.mem_append_right _ q1) rfl, gWG_in (List.mem_append_right _ q210) rfl, ⟨by decide, by decide, by decide +kernel⟩⟩
theorem cw_Web_46 : gwV R_Web 46 y_Web_isTaken b_Web_isTaken 4 (some .boolean) 2 := ⟨gWG_in (List.mem_append_right _ q213) rfl, gWG_in (List.mem_append_right _ q215) rfl, gWG_in (List.mem_append_left _ (List.mem_map.mpr ⟨(⟨"PoliteGatherer$Web", "isTaken", "(II)Z"⟩, 4), by decide +kernel, rfl⟩)) rfl, gWG_in (List.mem_append_right _ q2) rfl, gWG_in (List.mem_append_right _ q216) rfl, ⟨by decide, by decide, by decide +kernel⟩⟩
theorem cw_PG_42 : gwV R_PG 42 y_PG_canChange b_PG_canChange 2 (some .boolean) 1 := ⟨gWG_in (List.mem_append_right _ q261) rfl, gWG_in (List.mem_append_right _ q263) rfl, gWG_in (List.mem_append_left _ (List.mem_map.mpr ⟨(⟨"PoliteGatherer", "canChange", "(I)Z"⟩, 4), by decide +kernel, rfl⟩)) rfl, gWG_in (List.mem_append_right _ q1) rfl, gWG_in (List.mem_append_right _ q264) rfl, ⟨by decide, by decide, by decide +kernel⟩⟩
theorem cw_PG_65 : gwV R_PG 65 y_Web_isPage b_Web_isPage 2 (some .boolean) 1 := ⟨gWG_in (List.mem_append_right _ q265) rfl, gWG_in (List.mem_append_right _ q266) rfl, gWG_in (List.mem_append_right _ q267) rfl, gWG_in (List.mem_append_right _ q2) rfl, gWG_in (List.mem_append_right _ q268) rfl, ⟨by decide, by decide, by decide +kernel⟩⟩
theorem cw_PG_60 : gwV R_PG 60 y_Row_add b_Row_add 2 (some .boolean) 1 := ⟨gWG_in (List.mem_append_right _ q269) rfl, gWG_in (List.mem_append_right _ q270) rfl, gWG_in (List.mem_append_right _ q271) rfl, gWG_in (List.mem_append_right _ q4) rfl, gWG_in (List.mem_append_right _ q272) rfl, ⟨by decide, by decide, by decide +kernel⟩⟩
theorem cw_PG_87 : gwS R_PG 87 y_PG_isHost b_PG_isHost 1 (some .boolean) 1 := ⟨gWG_in (List.mem_append_right _ q293) rfl, gWG_in (List.mem_append_right _ q206) rfl, gWG_in (List.mem_append_right _ q1) rfl, gWG_in (List.mem_append_right _ q207) rfl, ⟨by decide, by decide, by decide +kernel⟩⟩
theorem cw_PG_95 : gwV R_PG 95 y_Host_addRule b_Host_addRule 3 (some .boolean) 2 := ⟨gWG_in (List.mem_append_right _ q295) rfl, gWG_in (List.mem_append_right _ q296) rfl, gWG_in (List.mem_append_right _ q297) rfl, gWG_in (List.mem_append_right _ q3) rfl, gWG_in (List.mem_append_right _ q298) rfl, ⟨by decide, by decide, by decide +kernel⟩⟩
theorem cw_PG_107 : gwV R_PG 107 y_Gat_startAnew b_Gat_startAnew 5 none 4 := ⟨gWG_in (List.mem_append_right _ q307) rfl, gWG_in (List.mem_append_right _ q308) rfl, gWG_in (List.mem_append_right _ q309) rfl, gWG_in (List.mem_append_right _ q5) rfl, gWG_in (List.mem_append_right _ q310) rfl, ⟨by decide, by decide, by decide +kernel⟩⟩
theorem cw_Gat_50 : gwV R_Gat 50 y_Row_cutTo b_Row_cutTo 2 none 1 := ⟨gWG_in (List.mem_append_right _ q311) rfl, gWG_in (List.mem_append_right _ q312) rfl, gWG_in (List.mem_append_right _ q313) rfl, gWG_in (List.mem_append_right _ q4) rfl, gWG_in (List.mem_append_right _ q314) rfl, ⟨by decide, by decide, by decide +kernel⟩⟩
theorem cw_Gat_62 : gwV R_Gat 62 y_Gat_setAllFrom b_Gat_setAllFrom 3 none 1 := ⟨gWG_in (List.mem_append_right _ q318) rfl, gWG_in (List.mem_append_right _ q320) rfl, gWG_in (List.mem_append_left _ (List.mem_map.mpr ⟨(⟨"PoliteGatherer$Gathering", "setAllFrom", "(I)V"⟩, 17), by decide +kernel, rfl⟩)) rfl, gWG_in (List.mem_append_right _ q5) rfl, gWG_in (List.mem_append_right _ q321) rfl, ⟨by decide, by decide, by decide +kernel⟩⟩
theorem cw_Gat_70 : gwV R_Gat 70 y_Gat_enqueueAll b_Gat_enqueueAll 5 none 2 := ⟨gWG_in (List.mem_append_right _ q322) rfl, gWG_in (List.mem_append_right _ q324) rfl, gWG_in (List.mem_append_left _ (List.mem_map.mpr ⟨(⟨"PoliteGatherer$Gathering", "enqueueAll", "(LPoliteGatherer$Row;I)V"⟩, 17), by decide +kernel, rfl⟩)) rfl, gWG_in (List.mem_append_right _ q5) rfl, gWG_in (List.mem_append_right _ q325) rfl, ⟨by decide, by decide, by decide +kernel⟩⟩
theorem cw_Gat_80 : gwV R_Gat 80 y_Row_at b_Row_at 2 (some .int) 1 := ⟨gWG_in (List.mem_append_right _ q326) rfl, gWG_in (List.mem_append_right _ q327) rfl, gWG_in (List.mem_append_right _ q328) rfl, gWG_in (List.mem_append_right _ q4) rfl, gWG_in (List.mem_append_right _ q329) rfl, ⟨by decide, by decide, by decide +kernel⟩⟩
theorem cw_Gat_88 : gwV R_Gat 88 y_Row_holds b_Row_holds 3 (some .boolean) 1 := ⟨gWG_in (List.mem_append_right _ q330) rfl, gWG_in (List.mem_append_right _ q331) rfl, gWG_in (List.mem_append_right _ q332) rfl, gWG_in (List.mem_append_right _ q4) rfl, gWG_in (List.mem_append_right _ q333) rfl, ⟨by decide, by decide, by decide +kernel⟩⟩
theorem cw_Gat_92 : gwV R_Gat 92 y_Row_add b_Row_add 2 (some .boolean) 1 := ⟨gWG_in (List.mem_append_right _ q334) rfl, gWG_in (List.mem_append_right _ q270) rfl, gWG_in (List.mem_append_right _ q271) rfl, gWG_in (List.mem_append_right _ q4) rfl, gWG_in (List.mem_append_right _ q272) rfl, ⟨by decide, by decide, by decide +kernel⟩⟩
theorem cw_Gat_74 : gwV R_Gat 74 y_Gat_setMark b_Gat_setMark 1 none 0 := ⟨gWG_in (List.mem_append_right _ q335) rfl, gWG_in (List.mem_append_right _ q337) rfl, gWG_in (List.mem_append_left _ (List.mem_map.mpr ⟨(⟨"PoliteGatherer$Gathering", "setMark", "()V"⟩, 17), by decide +kernel, rfl⟩)) rfl, gWG_in (List.mem_append_right _ q5) rfl, gWG_in (List.mem_append_right _ q338) rfl, ⟨by decide, by decide, by decide +kernel⟩⟩
theorem cw_PG_114 : gwV R_PG 114 y_Gat_entriesLeft b_Gat_entriesLeft 1 (some .int) 0 := ⟨gWG_in (List.mem_append_right _ q347) rfl, gWG_in (List.mem_append_right _ q348) rfl, gWG_in (List.mem_append_right _ q349) rfl, gWG_in (List.mem_append_right _ q5) rfl, gWG_in (List.mem_append_right _ q350) rfl, ⟨by decide, by decide, by decide +kernel⟩⟩
theorem cw_PG_118 : gwV R_PG 118 y_Gat_handleEntry b_Gat_handleEntry 4 none 0 := ⟨gWG_in (List.mem_append_right _ q351) rfl, gWG_in (List.mem_append_right _ q352) rfl, gWG_in (List.mem_append_right _ q353) rfl, gWG_in (List.mem_append_right _ q5) rfl, gWG_in (List.mem_append_right _ q354) rfl, ⟨by decide, by decide, by decide +kernel⟩⟩
theorem cw_Gat_84 : gwV R_Gat 84 y_Gat_chase b_Gat_chase 6 (some .int) 2 := ⟨gWG_in (List.mem_append_right _ q355) rfl, gWG_in (List.mem_append_right _ q356) rfl, gWG_in (List.mem_append_right _ q357) rfl, gWG_in (List.mem_append_right _ q5) rfl, gWG_in (List.mem_append_right _ q358) rfl, ⟨by decide, by decide, by decide +kernel⟩⟩
theorem cw_Gat_107 : gwV R_Gat 107 y_Web_isAllowed b_Web_isAllowed 2 (some .boolean) 1 := ⟨gWG_in (List.mem_append_right _ q359) rfl, gWG_in (List.mem_append_right _ q360) rfl, gWG_in (List.mem_append_right _ q361) rfl, gWG_in (List.mem_append_right _ q2) rfl, gWG_in (List.mem_append_right _ q362) rfl, ⟨by decide, by decide, by decide +kernel⟩⟩
theorem cw_Web_59 : gwV R_Web 59 y_Host_allowsPath b_Host_allowsPath 6 (some .boolean) 1 := ⟨gWG_in (List.mem_append_right _ q363) rfl, gWG_in (List.mem_append_right _ q364) rfl, gWG_in (List.mem_append_right _ q365) rfl, gWG_in (List.mem_append_right _ q3) rfl, gWG_in (List.mem_append_right _ q366) rfl, ⟨by decide, by decide, by decide +kernel⟩⟩
theorem cw_Host_23 : gwS R_Host 23 y_Host_isPrefix b_Host_isPrefix 3 (some .boolean) 2 := ⟨gWG_in (List.mem_append_right _ q367) rfl, gWG_in (List.mem_append_right _ q368) rfl, gWG_in (List.mem_append_right _ q3) rfl, gWG_in (List.mem_append_right _ q369) rfl, ⟨by decide, by decide, by decide +kernel⟩⟩
theorem cw_Gat_110 : gwV R_Gat 110 y_Gat_fetch b_Gat_fetch 4 none 1 := ⟨gWG_in (List.mem_append_right _ q370) rfl, gWG_in (List.mem_append_right _ q372) rfl, gWG_in (List.mem_append_left _ (List.mem_map.mpr ⟨(⟨"PoliteGatherer$Gathering", "fetch", "(I)V"⟩, 17), by decide +kernel, rfl⟩)) rfl, gWG_in (List.mem_append_right _ q5) rfl, gWG_in (List.mem_append_right _ q373) rfl, ⟨by decide, by decide, by decide +kernel⟩⟩
theorem cw_PG_121 : gwV R_PG 121 y_Gat_fallBack b_Gat_fallBack 2 (some .int) 0 := ⟨gWG_in (List.mem_append_right _ q383) rfl, gWG_in (List.mem_append_right _ q384) rfl, gWG_in (List.mem_append_right _ q385) rfl, gWG_in (List.mem_append_right _ q5) rfl, gWG_in (List.mem_append_right _ q386) rfl, ⟨by decide, by decide, by decide +kernel⟩⟩
theorem cw_PG_124 : gwV R_PG 124 y_Web_isAllowed b_Web_isAllowed 2 (some .boolean) 1 := ⟨gWG_in (List.mem_append_right _ q391) rfl, gWG_in (List.mem_append_right _ q360) rfl, gWG_in (List.mem_append_right _ q361) rfl, gWG_in (List.mem_append_right _ q2) rfl, gWG_in (List.mem_append_right _ q362) rfl, ⟨by decide, by decide, by decide +kernel⟩⟩
theorem cw_PG_127 : gwV R_PG 127 y_Gat_chase b_Gat_chase 6 (some .int) 2 := ⟨gWG_in (List.mem_append_right _ q396) rfl, gWG_in (List.mem_append_right _ q356) rfl, gWG_in (List.mem_append_right _ q357) rfl, gWG_in (List.mem_append_right _ q5) rfl, gWG_in (List.mem_append_right _ q358) rfl, ⟨by decide, by decide, by decide +kernel⟩⟩
theorem cw_PG_137 : gwV R_PG 137 y_Row_at b_Row_at 2 (some .int) 1 := ⟨gWG_in (List.mem_append_right _ q413) rfl, gWG_in (List.mem_append_right _ q327) rfl, gWG_in (List.mem_append_right _ q328) rfl, gWG_in (List.mem_append_right _ q4) rfl, gWG_in (List.mem_append_right _ q329) rfl, ⟨by decide, by decide, by decide +kernel⟩⟩
theorem cw_PG_141 : gwV R_PG 141 y_Rank_documentOf b_Rank_documentOf 5 (some .int) 1 := ⟨gWG_in (List.mem_append_right _ q418) rfl, gWG_in (List.mem_append_right _ q419) rfl, gWG_in (List.mem_append_right _ q420) rfl, gWG_in (List.mem_append_right _ q6) rfl, gWG_in (List.mem_append_right _ q421) rfl, ⟨by decide, by decide, by decide +kernel⟩⟩
theorem cw_Rank_52 : gwV R_Rank 52 y_Row_holds b_Row_holds 3 (some .boolean) 1 := ⟨gWG_in (List.mem_append_right _ q422) rfl, gWG_in (List.mem_append_right _ q331) rfl, gWG_in (List.mem_append_right _ q332) rfl, gWG_in (List.mem_append_right _ q4) rfl, gWG_in (List.mem_append_right _ q333) rfl, ⟨by decide, by decide, by decide +kernel⟩⟩
theorem cw_Rank_71 : gwV R_Rank 71 y_Row_at b_Row_at 2 (some .int) 1 := ⟨gWG_in (List.mem_append_right _ q423) rfl, gWG_in (List.mem_append_right _ q327) rfl, gWG_in (List.mem_append_right _ q328) rfl, gWG_in (List.mem_append_right _ q4) rfl, gWG_in (List.mem_append_right _ q329) rfl, ⟨by decide, by decide, by decide +kernel⟩⟩
theorem cw_Rank_75 : gwV R_Rank 75 y_Row_sameAs b_Row_sameAs 3 (some .boolean) 1 := ⟨gWG_in (List.mem_append_right _ q424) rfl, gWG_in (List.mem_append_right _ q425) rfl, gWG_in (List.mem_append_right _ q426) rfl, gWG_in (List.mem_append_right _ q4) rfl, gWG_in (List.mem_append_right _ q427) rfl, ⟨by decide, by decide, by decide +kernel⟩⟩
theorem cw_PG_144 : gwV R_PG 144 y_Rank_isDocument b_Rank_isDocument 2 (some .boolean) 1 := ⟨gWG_in (List.mem_append_right _ q432) rfl, gWG_in (List.mem_append_right _ q433) rfl, gWG_in (List.mem_append_right _ q434) rfl, gWG_in (List.mem_append_right _ q6) rfl, gWG_in (List.mem_append_right _ q435) rfl, ⟨by decide, by decide, by decide +kernel⟩⟩
theorem cw_Rank_79 : gwV R_Rank 79 y_Rank_documentOf b_Rank_documentOf 5 (some .int) 1 := ⟨gWG_in (List.mem_append_right _ q436) rfl, gWG_in (List.mem_append_right _ q419) rfl, gWG_in (List.mem_append_right _ q420) rfl, gWG_in (List.mem_append_right _ q6) rfl, gWG_in (List.mem_append_right _ q421) rfl, ⟨by decide, by decide, by decide +kernel⟩⟩
theorem cw_PG_147 : gwV R_PG 147 y_Rank_computeRanks b_Rank_computeRanks 4 none 1 := ⟨gWG_in (List.mem_append_right _ q437) rfl, gWG_in (List.mem_append_right _ q438) rfl, gWG_in (List.mem_append_right _ q439) rfl, gWG_in (List.mem_append_right _ q6) rfl, gWG_in (List.mem_append_right _ q440) rfl, ⟨by decide, by decide, by decide +kernel⟩⟩
theorem cw_Rank_82 : gwV R_Rank 82 y_Rank_listDocuments b_Rank_listDocuments 3 none 0 := ⟨gWG_in (List.mem_append_right _ q441) rfl, gWG_in (List.mem_append_right _ q443) rfl, gWG_in (List.mem_append_left _ (List.mem_map.mpr ⟨(⟨"PoliteGatherer$Ranking", "listDocuments", "()V"⟩, 8), by decide +kernel, rfl⟩)) rfl, gWG_in (List.mem_append_right _ q6) rfl, gWG_in (List.mem_append_right _ q444) rfl, ⟨by decide, by decide, by decide +kernel⟩⟩
theorem cw_Rank_100 : gwV R_Rank 100 y_Row_cutTo b_Row_cutTo 2 none 1 := ⟨gWG_in (List.mem_append_right _ q445) rfl, gWG_in (List.mem_append_right _ q312) rfl, gWG_in (List.mem_append_right _ q313) rfl, gWG_in (List.mem_append_right _ q4) rfl, gWG_in (List.mem_append_right _ q314) rfl, ⟨by decide, by decide, by decide +kernel⟩⟩
theorem cw_Rank_103 : gwV R_Rank 103 y_Rank_isDocument b_Rank_isDocument 2 (some .boolean) 1 := ⟨gWG_in (List.mem_append_right _ q446) rfl, gWG_in (List.mem_append_right _ q433) rfl, gWG_in (List.mem_append_right _ q434) rfl, gWG_in (List.mem_append_right _ q6) rfl, gWG_in (List.mem_append_right _ q435) rfl, ⟨by decide, by decide, by decide +kernel⟩⟩
theorem cw_Rank_106 : gwV R_Rank 106 y_Row_add b_Row_add 2 (some .boolean) 1 := ⟨gWG_in (List.mem_append_right _ q447) rfl, gWG_in (List.mem_append_right _ q270) rfl, gWG_in (List.mem_append_right _ q271) rfl, gWG_in (List.mem_append_right _ q4) rfl, gWG_in (List.mem_append_right _ q272) rfl, ⟨by decide, by decide, by decide +kernel⟩⟩
theorem cw_Rank_87 : gwV R_Rank 87 y_Rank_followLinks b_Rank_followLinks 5 none 1 := ⟨gWG_in (List.mem_append_right _ q449) rfl, gWG_in (List.mem_append_right _ q451) rfl, gWG_in (List.mem_append_left _ (List.mem_map.mpr ⟨(⟨"PoliteGatherer$Ranking", "followLinks", "(I)V"⟩, 8), by decide +kernel, rfl⟩)) rfl, gWG_in (List.mem_append_right _ q6) rfl, gWG_in (List.mem_append_right _ q452) rfl, ⟨by decide, by decide, by decide +kernel⟩⟩
theorem cw_Rank_112 : gwV R_Rank 112 y_Gat_chase b_Gat_chase 6 (some .int) 2 := ⟨gWG_in (List.mem_append_right _ q453) rfl, gWG_in (List.mem_append_right _ q356) rfl, gWG_in (List.mem_append_right _ q357) rfl, gWG_in (List.mem_append_right _ q5) rfl, gWG_in (List.mem_append_right _ q358) rfl, ⟨by decide, by decide, by decide +kernel⟩⟩
theorem cw_Rank_90 : gwV R_Rank 90 y_Rank_playRound b_Rank_playRound 3 none 0 := ⟨gWG_in (List.mem_append_right _ q454) rfl, gWG_in (List.mem_append_right _ q456) rfl, gWG_in (List.mem_append_left _ (List.mem_map.mpr ⟨(⟨"PoliteGatherer$Ranking", "playRound", "()V"⟩, 8), by decide +kernel, rfl⟩)) rfl, gWG_in (List.mem_append_right _ q6) rfl, gWG_in (List.mem_append_right _ q457) rfl, ⟨by decide, by decide, by decide +kernel⟩⟩
theorem cw_Rank_116 : gwV R_Rank 116 y_Rank_passOn b_Rank_passOn 6 none 1 := ⟨gWG_in (List.mem_append_right _ q458) rfl, gWG_in (List.mem_append_right _ q460) rfl, gWG_in (List.mem_append_left _ (List.mem_map.mpr ⟨(⟨"PoliteGatherer$Ranking", "passOn", "(I)V"⟩, 8), by decide +kernel, rfl⟩)) rfl, gWG_in (List.mem_append_right _ q6) rfl, gWG_in (List.mem_append_right _ q461) rfl, ⟨by decide, by decide, by decide +kernel⟩⟩
theorem cw_PG_155 : gwV R_PG 155 y_Rank_computeScores b_Rank_computeScores 5 none 2 := ⟨gWG_in (List.mem_append_right _ q469) rfl, gWG_in (List.mem_append_right _ q470) rfl, gWG_in (List.mem_append_right _ q471) rfl, gWG_in (List.mem_append_right _ q6) rfl, gWG_in (List.mem_append_right _ q472) rfl, ⟨by decide, by decide, by decide +kernel⟩⟩
theorem cw_Rank_93 : gwV R_Rank 93 y_Page_placesOf b_Page_placesOf 6 (some .int) 2 := ⟨gWG_in (List.mem_append_right _ q473) rfl, gWG_in (List.mem_append_right _ q474) rfl, gWG_in (List.mem_append_right _ q475) rfl, gWG_in (List.mem_append_right _ q8) rfl, gWG_in (List.mem_append_right _ q476) rfl, ⟨by decide, by decide, by decide +kernel⟩⟩
theorem cw_Page_45 : gwV R_Page 45 y_Row_at b_Row_at 2 (some .int) 1 := ⟨gWG_in (List.mem_append_right _ q477) rfl, gWG_in (List.mem_append_right _ q327) rfl, gWG_in (List.mem_append_right _ q328) rfl, gWG_in (List.mem_append_right _ q4) rfl, gWG_in (List.mem_append_right _ q329) rfl, ⟨by decide, by decide, by decide +kernel⟩⟩
theorem cw_PG_159 : gwV R_PG 159 y_Rank_documentAtPlace b_Rank_documentAtPlace 4 (some .int) 1 := ⟨gWG_in (List.mem_append_right _ q478) rfl, gWG_in (List.mem_append_right _ q479) rfl, gWG_in (List.mem_append_right _ q480) rfl, gWG_in (List.mem_append_right _ q6) rfl, gWG_in (List.mem_append_right _ q481) rfl, ⟨by decide, by decide, by decide +kernel⟩⟩
theorem cw_Rank_97 : gwV R_Rank 97 y_Rank_placeOf b_Rank_placeOf 4 (some .int) 1 := ⟨gWG_in (List.mem_append_right _ q482) rfl, gWG_in (List.mem_append_right _ q484) rfl, gWG_in (List.mem_append_left _ (List.mem_map.mpr ⟨(⟨"PoliteGatherer$Ranking", "placeOf", "(I)I"⟩, 8), by decide +kernel, rfl⟩)) rfl, gWG_in (List.mem_append_right _ q6) rfl, gWG_in (List.mem_append_right _ q485) rfl, ⟨by decide, by decide, by decide +kernel⟩⟩
theorem cw_Rank_125 : gwV R_Rank 125 y_Rank_standsBefore b_Rank_standsBefore 3 (some .boolean) 2 := ⟨gWG_in (List.mem_append_right _ q486) rfl, gWG_in (List.mem_append_right _ q488) rfl, gWG_in (List.mem_append_left _ (List.mem_map.mpr ⟨(⟨"PoliteGatherer$Ranking", "standsBefore", "(II)Z"⟩, 8), by decide +kernel, rfl⟩)) rfl, gWG_in (List.mem_append_right _ q6) rfl, gWG_in (List.mem_append_right _ q489) rfl, ⟨by decide, by decide, by decide +kernel⟩⟩
theorem cw_Rank_129 : gwV R_Rank 129 y_Page_comesBefore b_Page_comesBefore 2 (some .boolean) 1 := ⟨gWG_in (List.mem_append_right _ q490) rfl, gWG_in (List.mem_append_right _ q491) rfl, gWG_in (List.mem_append_right _ q492) rfl, gWG_in (List.mem_append_right _ q8) rfl, gWG_in (List.mem_append_right _ q493) rfl, ⟨by decide, by decide, by decide +kernel⟩⟩
theorem cw_Mod_78 : gwV R_Mod 78 y_Mod_isPage b_Mod_isPage 2 (some .boolean) 1 := ⟨gWG_in (List.mem_append_right _ q621) rfl, gWG_in (List.mem_append_right _ q623) rfl, gWG_in (List.mem_append_left _ (List.mem_map.mpr ⟨(⟨"PoliteGathererModel", "isPage", "(I)Z"⟩, 37), by decide +kernel, rfl⟩)) rfl, gWG_in (List.mem_append_right _ q7) rfl, gWG_in (List.mem_append_right _ q624) rfl, ⟨by decide, by decide, by decide +kernel⟩⟩
theorem cw_Mod_85 : gwV R_Mod 85 y_Mod_taken b_Mod_taken 5 (some .int) 2 := ⟨gWG_in (List.mem_append_right _ q649) rfl, gWG_in (List.mem_append_right _ q651) rfl, gWG_in (List.mem_append_left _ (List.mem_map.mpr ⟨(⟨"PoliteGathererModel", "taken", "(II)I"⟩, 37), by decide +kernel, rfl⟩)) rfl, gWG_in (List.mem_append_right _ q7) rfl, gWG_in (List.mem_append_right _ q652) rfl, ⟨by decide, by decide, by decide +kernel⟩⟩
theorem cw_Mod_134 : gwV R_Mod 134 y_Mod_queue b_Mod_queue 4 none 2 := ⟨gWG_in (List.mem_append_right _ q657) rfl, gWG_in (List.mem_append_right _ q659) rfl, gWG_in (List.mem_append_left _ (List.mem_map.mpr ⟨(⟨"PoliteGathererModel", "queue", "(II)V"⟩, 37), by decide +kernel, rfl⟩)) rfl, gWG_in (List.mem_append_right _ q7) rfl, gWG_in (List.mem_append_right _ q660) rfl, ⟨by decide, by decide, by decide +kernel⟩⟩
theorem cw_Mod_144 : gwV R_Mod 144 y_Mod_mark b_Mod_mark 1 none 0 := ⟨gWG_in (List.mem_append_right _ q661) rfl, gWG_in (List.mem_append_right _ q663) rfl, gWG_in (List.mem_append_left _ (List.mem_map.mpr ⟨(⟨"PoliteGathererModel", "mark", "()V"⟩, 37), by decide +kernel, rfl⟩)) rfl, gWG_in (List.mem_append_right _ q7) rfl, gWG_in (List.mem_append_right _ q664) rfl, ⟨by decide, by decide, by decide +kernel⟩⟩
theorem cw_Mod_159 : gwV R_Mod 159 y_Mod_handle b_Mod_handle 5 none 0 := ⟨gWG_in (List.mem_append_right _ q673) rfl, gWG_in (List.mem_append_right _ q675) rfl, gWG_in (List.mem_append_left _ (List.mem_map.mpr ⟨(⟨"PoliteGathererModel", "handle", "()V"⟩, 37), by decide +kernel, rfl⟩)) rfl, gWG_in (List.mem_append_right _ q7) rfl, gWG_in (List.mem_append_right _ q676) rfl, ⟨by decide, by decide, by decide +kernel⟩⟩
theorem cw_Mod_123 : gwV R_Mod 123 y_Mod_chase b_Mod_chase 5 (some .int) 2 := ⟨gWG_in (List.mem_append_right _ q677) rfl, gWG_in (List.mem_append_right _ q679) rfl, gWG_in (List.mem_append_left _ (List.mem_map.mpr ⟨(⟨"PoliteGathererModel", "chase", "(IZ)I"⟩, 37), by decide +kernel, rfl⟩)) rfl, gWG_in (List.mem_append_right _ q7) rfl, gWG_in (List.mem_append_right _ q680) rfl, ⟨by decide, by decide, by decide +kernel⟩⟩
theorem cw_Mod_104 : gwV R_Mod 104 y_Mod_allowed b_Mod_allowed 7 (some .boolean) 1 := ⟨gWG_in (List.mem_append_right _ q681) rfl, gWG_in (List.mem_append_right _ q646) rfl, gWG_in (List.mem_append_right _ q647) rfl, gWG_in (List.mem_append_right _ q7) rfl, gWG_in (List.mem_append_right _ q648) rfl, ⟨by decide, by decide, by decide +kernel⟩⟩
theorem cw_Mod_107 : gwV R_Mod 107 y_Mod_fetch b_Mod_fetch 4 none 1 := ⟨gWG_in (List.mem_append_right _ q682) rfl, gWG_in (List.mem_append_right _ q684) rfl, gWG_in (List.mem_append_left _ (List.mem_map.mpr ⟨(⟨"PoliteGathererModel", "fetch", "(I)V"⟩, 37), by decide +kernel, rfl⟩)) rfl, gWG_in (List.mem_append_right _ q7) rfl, gWG_in (List.mem_append_right _ q685) rfl, ⟨by decide, by decide, by decide +kernel⟩⟩
theorem cw_Mod_92 : gwV R_Mod 92 y_Mod_isFetched b_Mod_isFetched 4 (some .boolean) 1 := ⟨gWG_in (List.mem_append_right _ q686) rfl, gWG_in (List.mem_append_right _ q688) rfl, gWG_in (List.mem_append_left _ (List.mem_map.mpr ⟨(⟨"PoliteGathererModel", "isFetched", "(I)Z"⟩, 37), by decide +kernel, rfl⟩)) rfl, gWG_in (List.mem_append_right _ q7) rfl, gWG_in (List.mem_append_right _ q689) rfl, ⟨by decide, by decide, by decide +kernel⟩⟩
theorem cw_Mod_127 : gwV R_Mod 127 y_Mod_placeInCorpus b_Mod_placeInCorpus 4 (some .int) 1 := ⟨gWG_in (List.mem_append_right _ q690) rfl, gWG_in (List.mem_append_right _ q692) rfl, gWG_in (List.mem_append_left _ (List.mem_map.mpr ⟨(⟨"PoliteGathererModel", "placeInCorpus", "(I)I"⟩, 37), by decide +kernel, rfl⟩)) rfl, gWG_in (List.mem_append_right _ q7) rfl, gWG_in (List.mem_append_right _ q693) rfl, ⟨by decide, by decide, by decide +kernel⟩⟩
theorem cw_Mod_162 : gwV R_Mod 162 y_Mod_sameBody b_Mod_sameBody 5 (some .boolean) 2 := ⟨gWG_in (List.mem_append_right _ q722) rfl, gWG_in (List.mem_append_right _ q724) rfl, gWG_in (List.mem_append_left _ (List.mem_map.mpr ⟨(⟨"PoliteGathererModel", "sameBody", "(II)Z"⟩, 37), by decide +kernel, rfl⟩)) rfl, gWG_in (List.mem_append_right _ q7) rfl, gWG_in (List.mem_append_right _ q725) rfl, ⟨by decide, by decide, by decide +kernel⟩⟩
theorem cw_Mod_181 : gwV R_Mod 181 y_Mod_isDocument b_Mod_isDocument 2 (some .boolean) 1 := ⟨gWG_in (List.mem_append_right _ q730) rfl, gWG_in (List.mem_append_right _ q732) rfl, gWG_in (List.mem_append_left _ (List.mem_map.mpr ⟨(⟨"PoliteGathererModel", "isDocument", "(I)Z"⟩, 37), by decide +kernel, rfl⟩)) rfl, gWG_in (List.mem_append_right _ q7) rfl, gWG_in (List.mem_append_right _ q733) rfl, ⟨by decide, by decide, by decide +kernel⟩⟩
theorem cw_Mod_166 : gwV R_Mod 166 y_Mod_document b_Mod_document 3 (some .int) 1 := ⟨gWG_in (List.mem_append_right _ q734) rfl, gWG_in (List.mem_append_right _ q719) rfl, gWG_in (List.mem_append_right _ q720) rfl, gWG_in (List.mem_append_right _ q7) rfl, gWG_in (List.mem_append_right _ q721) rfl, ⟨by decide, by decide, by decide +kernel⟩⟩
theorem cw_Mod_184 : gwV R_Mod 184 y_Mod_rankAll b_Mod_rankAll 5 none 1 := ⟨gWG_in (List.mem_append_right _ q735) rfl, gWG_in (List.mem_append_right _ q737) rfl, gWG_in (List.mem_append_left _ (List.mem_map.mpr ⟨(⟨"PoliteGathererModel", "rankAll", "(I)V"⟩, 37), by decide +kernel, rfl⟩)) rfl, gWG_in (List.mem_append_right _ q7) rfl, gWG_in (List.mem_append_right _ q738) rfl, ⟨by decide, by decide, by decide +kernel⟩⟩
theorem cw_Mod_175 : gwV R_Mod 175 y_Mod_sum b_Mod_sum 9 (some .long) 1 := ⟨gWG_in (List.mem_append_right _ q742) rfl, gWG_in (List.mem_append_right _ q744) rfl, gWG_in (List.mem_append_left _ (List.mem_map.mpr ⟨(⟨"PoliteGathererModel", "sum", "(I)J"⟩, 37), by decide +kernel, rfl⟩)) rfl, gWG_in (List.mem_append_right _ q7) rfl, gWG_in (List.mem_append_right _ q745) rfl, ⟨by decide, by decide, by decide +kernel⟩⟩
theorem cw_Mod_187 : gwV R_Mod 187 y_Mod_score b_Mod_score 7 (some .long) 3 := ⟨gWG_in (List.mem_append_right _ q751) rfl, gWG_in (List.mem_append_right _ q753) rfl, gWG_in (List.mem_append_left _ (List.mem_map.mpr ⟨(⟨"PoliteGathererModel", "score", "(III)J"⟩, 37), by decide +kernel, rfl⟩)) rfl, gWG_in (List.mem_append_right _ q7) rfl, gWG_in (List.mem_append_right _ q754) rfl, ⟨by decide, by decide, by decide +kernel⟩⟩
theorem cw_Mod_191 : gwV R_Mod 191 y_Mod_comesBefore b_Mod_comesBefore 9 (some .boolean) 4 := ⟨gWG_in (List.mem_append_right _ q755) rfl, gWG_in (List.mem_append_right _ q757) rfl, gWG_in (List.mem_append_left _ (List.mem_map.mpr ⟨(⟨"PoliteGathererModel", "comesBefore", "(IIII)Z"⟩, 37), by decide +kernel, rfl⟩)) rfl, gWG_in (List.mem_append_right _ q7) rfl, gWG_in (List.mem_append_right _ q758) rfl, ⟨by decide, by decide, by decide +kernel⟩⟩
theorem w_Web_const_41 : Cond.constant R_Web 41 999999 ∈ gWG := gWG_in (List.mem_append_right _ q211) rfl
theorem w_PG_const_90 : Cond.constant R_PG 90 999999 ∈ gWG := gWG_in (List.mem_append_right _ q294) rfl
theorem w_Rank_constl_85 : Cond.constantLong R_Rank 85 1000000 ∈ gWG := gWG_in (List.mem_append_right _ q448) rfl
theorem w_Rank_constl_119 : Cond.constantLong R_Rank 119 150000 ∈ gWG := gWG_in (List.mem_append_right _ q462) rfl
theorem w_Rank_constl_121 : Cond.constantLong R_Rank 121 85 ∈ gWG := gWG_in (List.mem_append_right _ q463) rfl
theorem w_Rank_constl_123 : Cond.constantLong R_Rank 123 100 ∈ gWG := gWG_in (List.mem_append_right _ q464) rfl
theorem w_Mod_const_77 : Cond.constant R_Mod 77 999999 ∈ gWG := gWG_in (List.mem_append_right _ q616) rfl
theorem w_Mod_constl_169 : Cond.constantLong R_Mod 169 1000000 ∈ gWG := gWG_in (List.mem_append_right _ q739) rfl
theorem w_Mod_constl_171 : Cond.constantLong R_Mod 171 150000 ∈ gWG := gWG_in (List.mem_append_right _ q740) rfl
theorem w_Mod_constl_173 : Cond.constantLong R_Mod 173 85 ∈ gWG := gWG_in (List.mem_append_right _ q741) rfl
theorem w_Mod_constl_179 : Cond.constantLong R_Mod 179 100 ∈ gWG := gWG_in (List.mem_append_right _ q746) rfl
theorem w_Row_math_19 : Cond.methodLink R_Row 19 Lib.Math.min.name ∈ gWG := gWG_in (List.mem_append_right _ q315) rfl
theorem w_math_min_static : Cond.static Lib.Math.min.name ∈ gWG := gWG_in (List.mem_append_right _ q316) rfl
theorem w_math_min_code : Cond.code Lib.Math.min.name Lib.Math.min.code 2 (some .int) ∈ gWG := gWG_in (List.mem_append_right _ q317) rfl
theorem w_Gat_math_140 : Cond.methodLink R_Gat 140 Lib.Math.max.name ∈ gWG := gWG_in (List.mem_append_right _ q374) rfl
theorem w_math_max_static : Cond.static Lib.Math.max.name ∈ gWG := gWG_in (List.mem_append_right _ q375) rfl
theorem w_math_max_code : Cond.code Lib.Math.max.name Lib.Math.max.code 2 (some .int) ∈ gWG := gWG_in (List.mem_append_right _ q376) rfl
theorem w_math_init : Cond.initialized "java/lang/Math" ∈ gWG := gWG_in (List.mem_append_right _ q11) rfl
end
section
/-! Pure words: answers as ints, rows of numbers. -/
theorem nI_inc (i : Nat) : nI i + Int32.ofInt 1 = nI (i + 1) := nI_1 i
def bI (b : Bool) : Int32 := if b = true then 1 else 0
theorem bI_nar (b : Bool) : narrow .boolean (.int (bI b)) = .int (bI b) := by cases b <;> rfl
theorem bI_narz (b : Bool) : vp_nar .boolean (bI b) = bI b := by cases b <;> rfl
theorem bI_fit (b : Bool) : fits .boolean (.int (bI b)) = true := by cases b <;> rfl
theorem bI_0 {b : Bool} (h : bI b = 0) : b = false := by
  cases b
  · rfl
  · exact absurd h (by decide)
theorem bI_n0 {b : Bool} (h : ¬ bI b = 0) : b = true := by
  cases b
  · exact absurd rfl h
  · rfl
theorem bI_t : bI true = 1 := rfl
theorem bI_f : bI false = 0 := rfl
/-- x is among the first n of f -/
def pEq (f : Nat → Int32) (x : Int32) : Nat → Bool
  | 0 => false
  | n + 1 => pEq f x n || decide (f n = x)
theorem pEq_hit {f : Nat → Int32} {x : Int32} {i : Nat} (h : f i = x) : ∀ {n : Nat}, i < n → pEq f x n = true
  | 0, hi => absurd hi (Nat.not_lt_zero _)
  | n + 1, hi => by
    by_cases e : i = n
    · subst e
      simp [pEq, h]
    · simp [pEq, pEq_hit h (show i < n by omega)]
theorem pEq_step {f : Nat → Int32} {x : Int32} {n : Nat} (h : pEq f x n = false) (h2 : ¬ f n = x) : pEq f x (n + 1) = false := by simp [pEq, h, h2]
theorem pEq_of {f : Nat → Int32} {x : Int32} : ∀ {n : Nat}, pEq f x n = true → ∃ i, i < n ∧ f i = x
  | 0, h => by simp [pEq] at h
  | n + 1, h => by
    simp only [pEq, Bool.or_eq_true, decide_eq_true_eq] at h
    rcases h with h | h
    · obtain ⟨i, h1, h2⟩ := pEq_of h
      exact ⟨i, by omega, h2⟩
    · exact ⟨n, by omega, h⟩
theorem pEq_no {f : Nat → Int32} {x : Int32} {n i : Nat} (h : pEq f x n = false) (hi : i < n) : ¬ f i = x := fun e => by
  rw [pEq_hit e hi] at h
  cases h
theorem pEq_congr {f g : Nat → Int32} {x : Int32} : ∀ {n : Nat}, (∀ i, i < n → f i = g i) → pEq f x n = pEq g x n
  | 0, _ => rfl
  | n + 1, h => by
    simp only [pEq]
    rw [pEq_congr (fun i hi => h i (by omega)), h n (by omega)]
/-- two rows are the same up to n -/
def pSm (f g : Nat → Int32) : Nat → Bool
  | 0 => true
  | n + 1 => pSm f g n && decide (f n = g n)
theorem pSm_step {f g : Nat → Int32} {n : Nat} (h : pSm f g n = true) (h2 : f n = g n) : pSm f g (n + 1) = true := by simp [pSm, h, h2]
theorem pSm_no {f g : Nat → Int32} {i : Nat} (h : ¬ f i = g i) : ∀ {n : Nat}, i < n → pSm f g n = false
  | 0, hi => absurd hi (Nat.not_lt_zero _)
  | n + 1, hi => by
    by_cases e : i = n
    · subst e
      simp [pSm, h]
    · simp [pSm, pSm_no h (show i < n by omega)]
/-- a row of the picture: its size at the place q0, its items at the places lo i -/
def gRow (np k : Nat) (q0 : Nat × Nat × Nat) (lo : Nat → Nat × Nat × Nat) (cap : Nat) : Prop := k + 1 < 94 + 5 * np ∧ gk k = 3 ∧ gk (k + 1) = 8 ∧ gn (k + 1) = cap ∧ cap < 1000 ∧ gv np q0 ∧ gi q0 = (k, 1) ∧ ∀ i, i < cap → gv np (lo i) ∧ gi (lo i) = (k + 1, i)
theorem gRow_ne {np k : Nat} {q0 : Nat × Nat × Nat} {lo : Nat → Nat × Nat × Nat} {cap i : Nat} (h : gRow np k q0 lo cap) (hi : i < cap) : q0 ≠ lo i := by
  intro e
  have h1 := h.2.2.2.2.2.2.1
  rw [e, (h.2.2.2.2.2.2.2 i hi).2] at h1
  exact absurd (congrArg Prod.fst h1) (show ¬ k + 1 = k by omega)
theorem gRow_22 (np : Nat) : gRow np 22 (0, 0, 12) (fun i => (0, 11, i)) 6 := ⟨by omega, rfl, rfl, rfl, by decide, gv_0_0_12 _, rfl, fun i hi => ⟨gv_0_11 hi, gi_0_11 i⟩⟩
theorem gRow_25 (np : Nat) : gRow np 25 (0, 0, 21) (fun i => (0, 12, i)) 32 := ⟨by omega, rfl, rfl, rfl, by decide, gv_0_0_21 _, rfl, fun i hi => ⟨gv_0_12 hi, gi_0_12 i⟩⟩
theorem gRow_27 (np : Nat) : gRow np 27 (1, 2, 0) (fun i => (0, 13, i)) 32 := ⟨by omega, rfl, rfl, rfl, by decide, gv_1_2_0 _, rfl, fun i hi => ⟨gv_0_13 hi, gi_0_13 i⟩⟩
theorem gRow_29 (np : Nat) : gRow np 29 (0, 0, 23) (fun i => (0, 14, i)) 32 := ⟨by omega, rfl, rfl, rfl, by decide, gv_0_0_23 _, rfl, fun i hi => ⟨gv_0_14 hi, gi_0_14 i⟩⟩
theorem gRow_31 (np : Nat) : gRow np 31 (0, 0, 25) (fun i => (0, 15, i)) 32 := ⟨by omega, rfl, rfl, rfl, by decide, gv_0_0_25 _, rfl, fun i hi => ⟨gv_0_15 hi, gi_0_15 i⟩⟩
theorem gRow_35 (np : Nat) : gRow np 35 (1, 2, 1) (fun i => (1, 3, i)) 32 := ⟨by omega, rfl, rfl, rfl, by decide, gv_1_2_1 _, rfl, fun i hi => ⟨gv_1_3 hi, gi_1_3 i⟩⟩
theorem gRow_b {np p : Nat} (hp : p < np) : gRow np (gp p + 1) (0, 5, p) (fun i => (0, 4, 8 * p + i)) 8 := ⟨by unfold gp; omega, gk_p1 p, gk_p2 p, gn_p2 p, by decide, gv_0_5 hp, gi_0_5 p, fun i hi => ⟨gv_0_4 hp hi, gi_0_4 p hi⟩⟩
theorem gRow_l {np p : Nat} (hp : p < np) : gRow np (gp p + 3) (0, 7, p) (fun i => (0, 6, 5 * p + i)) 5 := ⟨by unfold gp; omega, gk_p3 p, gk_p4 p, gn_p4 p, by decide, gv_0_7 hp, gi_0_7 p, fun i hi => ⟨gv_0_6 hp hi, gi_0_6 p hi⟩⟩
end
section
/-! Rules: digits, prefixes, and that the class's way of taking the longest is the reference's. -/
theorem i_irr (x : Int32) : ¬ x < x := fun h => Int32.lt_irrefl h
def dgF : Nat → Nat → Nat
  | 0, _ => 0
  | f + 1, x => if x = 0 then 0 else dgF f (x / 10) + 1
def pfF : Nat → Nat → Nat → Bool
  | 0, _, _ => false
  | f + 1, y, x => if y = 0 then false else (decide (y = x) || pfF f (y / 10) x)
def tkI (x y : Nat) : Int32 := if pfF 10 y x = true then nI (dgF 10 x) else if x = 0 then 0 else -1
theorem dgF_0 : ∀ f, dgF f 0 = 0
  | 0 => rfl
  | _ + 1 => rfl
theorem dgF_mono : ∀ (f : Nat) {x y : Nat}, x ≤ y → dgF f x ≤ dgF f y
  | 0, _, _, _ => Nat.le_refl _
  | f + 1, x, y, h => by
    unfold dgF
    by_cases hx : x = 0
    · rw [if_pos hx]; exact Nat.zero_le _
    · rw [if_neg hx, if_neg (by omega)]
      exact Nat.succ_le_succ (dgF_mono f (Nat.div_le_div_right h))
theorem dgF_succ : ∀ (f : Nat) {x : Nat}, x < 10 ^ f → dgF (f + 1) x = dgF f x
  | 0, x, h => by
    have : x = 0 := by simpa using h
    subst this
    rfl
  | f + 1, x, h => by
    by_cases hx : x = 0
    · subst hx; rfl
    · show (if x = 0 then 0 else dgF (f + 1) (x / 10) + 1) = (if x = 0 then 0 else dgF f (x / 10) + 1)
      rw [if_neg hx, if_neg hx, dgF_succ f (by rw [Nat.pow_succ] at h; omega)]
theorem dgF_div {x : Nat} (hx : 0 < x) (h : x < 10 ^ 10) : dgF 10 x = dgF 10 (x / 10) + 1 := by
  show (if x = 0 then 0 else dgF 9 (x / 10) + 1) = _
  rw [if_neg (by omega), dgF_succ 9 (by omega)]
theorem pfF_head : ∀ (f : Nat) {y x : Nat}, pfF f y x = true → 0 < x ∧ ∃ k, x = y / 10 ^ k
  | 0, _, _, h => by simp [pfF] at h
  | f + 1, y, x, h => by
    unfold pfF at h
    by_cases hy : y = 0
    · rw [if_pos hy] at h; cases h
    · rw [if_neg hy, Bool.or_eq_true, decide_eq_true_eq] at h
      rcases h with h | h
      · exact ⟨by omega, 0, by simp [h]⟩
      · obtain ⟨h1, k, h2⟩ := pfF_head f h
        exact ⟨h1, k + 1, by rw [h2, Nat.div_div_eq_div_mul, Nat.pow_succ, Nat.mul_comm]⟩
def hdP (y x : Nat) : Bool := pfF 10 y x || decide (x = 0)
theorem hdP_lt {y x1 x2 : Nat} (hy : y < 10 ^ 10) (h1 : hdP y x1 = true) (h2 : hdP y x2 = true) (h : x2 < x1) : dgF 10 x2 < dgF 10 x1 := by
  unfold hdP at h1 h2
  simp only [Bool.or_eq_true, decide_eq_true_eq] at h1 h2
  rcases h1 with h1 | h1
  · obtain ⟨p1, i, e1⟩ := pfF_head 10 h1
    have hx1 : x1 < 10 ^ 10 := Nat.lt_of_le_of_lt (by rw [e1]; exact Nat.div_le_self _ _) hy
    rw [dgF_div p1 hx1]
    refine Nat.lt_succ_of_le (dgF_mono 10 ?_)
    rcases h2 with h2 | h2
    · obtain ⟨p2, j, e2⟩ := pfF_head 10 h2
      have hij : i < j := by
        refine Nat.lt_of_not_le fun hji => ?_
        have : y / 10 ^ i ≤ y / 10 ^ j := Nat.div_le_div_left (Nat.pow_le_pow_right (by omega) hji) (Nat.pow_pos (by omega))
        omega
      rw [e1, e2, Nat.div_div_eq_div_mul, ← Nat.pow_succ]
      exact Nat.div_le_div_left (Nat.pow_le_pow_right (by omega) hij) (Nat.pow_pos (by omega))
    · omega
  · omega
theorem dgF_le : ∀ (f x : Nat), dgF f x ≤ f
  | 0, _ => Nat.le_refl _
  | f + 1, x => by
    unfold dgF
    by_cases hx : x = 0
    · rw [if_pos hx]; exact Nat.zero_le _
    · rw [if_neg hx]; exact Nat.succ_le_succ (dgF_le f _)
theorem tkI_hd {x y : Nat} (h : hdP y x = true) : tkI x y = nI (dgF 10 x) := by
  unfold tkI
  by_cases hp : pfF 10 y x = true
  · rw [if_pos hp]
  · unfold hdP at h
    simp only [hp, Bool.false_or, decide_eq_true_eq] at h
    rw [if_neg hp, if_pos h, h]
    rfl
theorem tkI_no {x y : Nat} (h : hdP y x = false) : tkI x y = -1 := by
  unfold hdP at h
  simp only [Bool.or_eq_false_iff, decide_eq_false_iff_not] at h
  unfold tkI
  rw [if_neg (by rw [h.1]; decide), if_neg h.2]
/-- the reference's walk over the rules of a host -/
def alS (pr al : Nat → Int32) (y : Nat) : Nat → Int32 × Bool
  | 0 => (-1, true)
  | i + 1 =>
    if (alS pr al y i).1 < tkI (pr i).toNatClampNeg y then (tkI (pr i).toNatClampNeg y, decide (¬ al i = 0))
    else if tkI (pr i).toNatClampNeg y = (alS pr al y i).1 ∧ 0 ≤ tkI (pr i).toNatClampNeg y then ((alS pr al y i).1, (alS pr al y i).2 || decide (¬ al i = 0))
    else alS pr al y i
/-- the class's -/
def caS (pr al : Nat → Int32) (y : Nat) : Nat → Int32 × Bool
  | 0 => (-1, true)
  | i + 1 =>
    if pr i < (caS pr al y i).1 ∨ hdP y (pr i).toNatClampNeg = false then caS pr al y i
    else (pr i, decide (¬ al i = 0) || (decide (pr i = (caS pr al y i).1) && (caS pr al y i).2))
theorem caS_alS {pr al : Nat → Int32} {y : Nat} (hy : y < 10 ^ 10) : ∀ (n : Nat), (∀ i, i < n → ∃ x, x ≤ 999999 ∧ pr i = nI x) →
    (caS pr al y n).2 = (alS pr al y n).2 ∧ (((caS pr al y n).1 = -1 ∧ (alS pr al y n).1 = -1) ∨ ∃ x, x ≤ 999999 ∧ hdP y x = true ∧ (caS pr al y n).1 = nI x ∧ (alS pr al y n).1 = nI (dgF 10 x))
  | 0, _ => ⟨rfl, Or.inl ⟨rfl, rfl⟩⟩
  | n + 1, hp => by
    obtain ⟨h2, h1⟩ := caS_alS hy n (fun i hi => hp i (by omega))
    obtain ⟨x, hx, ex⟩ := hp n (by omega)
    have hcl : (pr n).toNatClampNeg = x := by rw [ex]; exact nI_clamp (by omega)
    have m1 : (-1 : Int32) < nI x := Int32.lt_iff_toInt_lt.mpr (by rw [nI_toInt (by omega)]; show (-1 : Int) < _; omega)
    have md : ∀ d, d ≤ 10 → (-1 : Int32) < nI d := fun d hd => Int32.lt_iff_toInt_lt.mpr (by rw [nI_toInt (by omega)]; show (-1 : Int) < _; omega)
    have ne1 : ∀ d, d ≤ 999999 → ¬ nI d = (-1 : Int32) := fun d hd e => by
      have := congrArg Int32.toInt e
      rw [nI_toInt (by omega)] at this
      exact absurd this (by show ¬ ((d : Int) = -1); omega)
    simp only [caS, alS]
    rw [hcl]
    cases hh : hdP y x with
    | false =>
      rw [tkI_no hh, if_pos (Or.inr rfl)]
      have ha : ¬ (alS pr al y n).1 < -1 := by
        rcases h1 with ⟨_, e⟩ | ⟨x0, hx0, _, _, e⟩
        · rw [e]; decide
        · rw [e]
          exact fun q => absurd (Int32.lt_trans q (md _ (dgF_le 10 x0))) (i_irr _)
      rw [if_neg ha, if_neg (fun q => absurd q.2 (by decide))]
      exact ⟨h2, h1⟩
    | true =>
      rw [tkI_hd hh]
      have hd := dgF_le 10 x
      rcases h1 with ⟨e1, e2⟩ | ⟨x0, hx0, hh0, e1, e2⟩
      · rw [e1, e2, if_neg (by
          rintro (q | q)
          · rw [ex] at q
            exact absurd (Int32.lt_trans q m1) (i_irr _)
          · cases q), if_pos (md _ hd)]
        refine ⟨?_, Or.inr ⟨x, hx, hh, ex, rfl⟩⟩
        show (_ || (decide (pr n = -1) && _)) = _
        rw [decide_eq_false (p := pr n = -1) (by rw [ex]; exact ne1 x hx), Bool.false_and, Bool.or_false]
      · have hd0 := dgF_le 10 x0
        rw [e1, e2, ex]
        rcases Nat.lt_trichotomy x x0 with c | c | c
        · have hlt := hdP_lt hy hh0 hh c
          rw [if_pos (Or.inl ((nI_ltI (by omega) (by omega)).mpr c)), if_neg (fun q => absurd ((nI_ltI (by omega) (by omega)).mp q) (by omega)), if_neg (fun q => absurd ((nI_eq (by omega) (by omega)).mp q.1) (by omega))]
          exact ⟨h2, Or.inr ⟨x0, hx0, hh0, e1, e2⟩⟩
        · subst c
          rw [if_neg (by
            rintro (q | q)
            · exact absurd q (i_irr _)
            · cases q), if_neg (i_irr _), if_pos ⟨rfl, nI_pos' (by omega)⟩]
          refine ⟨?_, Or.inr ⟨x, hx, hh, rfl, rfl⟩⟩
          show (_ || (decide (nI x = nI x) && _)) = (_ || _)
          rw [decide_eq_true (p := nI x = nI x) rfl, Bool.true_and, h2, Bool.or_comm]
        · have hlt := hdP_lt hy hh hh0 c
          rw [if_neg (by
            rintro (q | q)
            · exact absurd ((nI_ltI (by omega) (by omega)).mp q) (by omega)
            · cases q), if_pos ((nI_ltI (by omega) (by omega)).mpr hlt)]
          refine ⟨?_, Or.inr ⟨x, hx, hh, rfl, rfl⟩⟩
          show (_ || (decide (nI x = nI x0) && _)) = _
          rw [decide_eq_false (p := nI x = nI x0) (fun q => absurd ((nI_eq (by omega) (by omega)).mp q) (by omega)), Bool.false_and, Bool.or_false]
end
section
/-! Specs: what the calls do to the abstract state a. Scalars stand in row 0: 0 pages, 12 firsts, 13 under way, 14 limit, 15 hops, 16 delay, 17 every, 20 head, 21 queued, 23 fetched, 25 gathered, 26 now, 28 total, 29..32 marks, 33 since. -/
theorem pfF_step {f y x : Nat} (hy : 0 < y) (hx : ¬ y = x) : pfF (f + 1) y x = pfF f (y / 10) x := by
  show (if y = 0 then false else (decide (y = x) || pfF f (y / 10) x)) = _
  rw [if_neg (by omega), decide_eq_false hx, Bool.false_or]
theorem pfF_hit {f y x : Nat} (hy : 0 < y) (hx : y = x) : pfF (f + 1) y x = true := by
  show (if y = 0 then false else (decide (y = x) || pfF f (y / 10) x)) = _
  rw [if_neg (by omega), decide_eq_true hx, Bool.true_or]
theorem pfF_z : ∀ (f x : Nat), pfF f 0 x = false
  | 0, _ => rfl
  | _ + 1, _ => rfl
theorem pow_ne {f y : Nat} (hy : y < 10 ^ f) (h0 : 0 < y) : ∃ f', f = f' + 1 := by
  cases f with
  | zero => simp at hy; omega
  | succ n => exact ⟨n, rfl⟩
theorem caS_skip {pr al : Nat → Int32} {y i : Nat} (h : pr i < (caS pr al y i).1 ∨ hdP y (pr i).toNatClampNeg = false) : caS pr al y (i + 1) = caS pr al y i := if_pos h
theorem caS_take {pr al : Nat → Int32} {y i : Nat} (h1 : ¬ pr i < (caS pr al y i).1) (h2 : hdP y (pr i).toNatClampNeg = true) {b : Bool} (hb : (decide (¬ al i = 0) || (decide (pr i = (caS pr al y i).1) && (caS pr al y i).2)) = b) : caS pr al y (i + 1) = (pr i, b) := by
  rw [← hb]
  exact if_neg (fun q => q.elim h1 (fun z => by rw [h2] at z; cases z))
def cn (a : gA) (j : Nat) : Nat := (a 0 j).toNatClampNeg
theorem cn_of {a : gA} {j n : Nat} (h : a 0 j = nI n) (hn : n < 2 ^ 31) : cn a j = n := by unfold cn; rw [h]; exact nI_clamp hn
def sIn (x lo hi : Int32) : Bool := decide (lo ≤ x) && decide (x ≤ hi)
theorem sIn_t {x lo hi : Int32} (h1 : ¬ x < lo) (h2 : ¬ hi < x) : sIn x lo hi = true := by
  unfold sIn
  rw [decide_eq_true (Int32.not_lt.mp h1), decide_eq_true (Int32.not_lt.mp h2)]
  rfl
theorem sIn_f1 {x lo hi : Int32} (h1 : x < lo) : sIn x lo hi = false := by
  unfold sIn
  rw [decide_eq_false (Int32.not_le.mpr h1)]
  rfl
theorem sIn_f2 {x lo hi : Int32} (h1 : hi < x) : sIn x lo hi = false := by
  unfold sIn
  rw [decide_eq_false (Int32.not_le.mpr h1), Bool.and_false]
def sIs (a : gA) (p : Int32) : Bool := decide (0 ≤ p) && decide (p < a 0 0)
theorem sIs_t {a : gA} {p : Int32} (h1 : ¬ p < 0) (h2 : ¬ a 0 0 ≤ p) : sIs a p = true := by
  unfold sIs
  rw [decide_eq_true (Int32.not_lt.mp h1), decide_eq_true (Int32.not_le.mp h2)]
  rfl
theorem sIs_f1 {a : gA} {p : Int32} (h1 : p < 0) : sIs a p = false := by
  unfold sIs
  rw [decide_eq_false (Int32.not_le.mpr h1)]
  rfl
theorem sIs_f2 {a : gA} {p : Int32} (h1 : a 0 0 ≤ p) : sIs a p = false := by
  unfold sIs
  rw [decide_eq_false (Int32.not_lt.mpr h1), Bool.and_false]
theorem sIs_of {a : gA} {p : Int32} {np : Nat} (hn : a 0 0 = nI np) (hnp : np ≤ 32) (h : sIs a p = true) : ∃ P, P < np ∧ p = nI P := by
  unfold sIs at h
  rw [Bool.and_eq_true, decide_eq_true_eq, decide_eq_true_eq, hn] at h
  rcases pk_ix p (n := np) (by omega) with q | q | q
  · exact absurd h.1 (Int32.not_le.mpr q)
  · exact absurd h.2 (Int32.not_lt.mpr q)
  · exact q
theorem sIs_nI {a : gA} {P np : Nat} (hn : a 0 0 = nI np) (hnp : np ≤ 32) (h : P < np) : sIs a (nI P) = true := sIs_t (nI_pos (by omega)) (by rw [hn]; exact nI_ge h (by omega))
/-- the rules that a page's host has, and what they say -/
def sAlw (a : gA) (P : Nat) : Bool := (alS (fun i => a 8 (4 * (a 1 P).toNatClampNeg + i)) (fun i => a 9 (4 * (a 1 P).toNatClampNeg + i)) (a 2 P).toNatClampNeg (a 10 (a 1 P).toNatClampNeg).toNatClampNeg).2
/-- a page with this host and path is among the first n -/
def sDup (a : gA) (h q : Int32) : Nat → Bool
  | 0 => false
  | n + 1 => sDup a h q n || (decide (a 1 n = h) && decide (a 2 n = q))
theorem sDup_step {a : gA} {h q : Int32} {n : Nat} (h0 : sDup a h q n = false) (h2 : ¬ (a 1 n = h ∧ a 2 n = q)) : sDup a h q (n + 1) = false := by
  show (_ || _) = _
  rw [h0, Bool.false_or, Bool.and_eq_false_iff, decide_eq_false_iff_not, decide_eq_false_iff_not]
  exact Classical.not_and_iff_not_or_not.mp h2
theorem sDup_hit {a : gA} {h q : Int32} {i : Nat} (h1 : a 1 i = h) (h2 : a 2 i = q) : ∀ {n : Nat}, i < n → sDup a h q n = true
  | 0, hi => absurd hi (Nat.not_lt_zero _)
  | n + 1, hi => by
    show (_ || _) = _
    by_cases e : i = n
    · subst e
      rw [decide_eq_true h1, decide_eq_true h2, Bool.and_true, Bool.or_true]
    · rw [sDup_hit h1 h2 (show i < n by omega), Bool.true_or]
/-- the web keeps to its bounds -/
def WFw (np : Nat) (a : gA) : Prop := np ≤ 32 ∧ a 0 0 = nI np ∧
  (∀ p, p < np → (∃ h, h < 6 ∧ a 1 p = nI h) ∧ (∃ y, 1 ≤ y ∧ y ≤ 999999 ∧ a 2 p = nI y) ∧ (a 3 p = -2 ∨ a 3 p = -3 ∨ ∃ q, q < np ∧ a 3 p = nI q) ∧ (∃ w, w ≤ 8 ∧ a 5 p = nI w) ∧ ∃ k, k ≤ 5 ∧ a 7 p = nI k ∧ ∀ i, i < k → ∃ q, q < np ∧ a 6 (5 * p + i) = nI q) ∧
  (∀ h, h < 6 → ∃ k, k ≤ 4 ∧ a 10 h = nI k ∧ ∀ i, i < k → ∃ x, x ≤ 999999 ∧ a 8 (4 * h + i) = nI x) ∧
  (∀ p, np ≤ p → a 5 p = 0 ∧ a 7 p = 0) ∧ (∀ x, 8 * np ≤ x → a 4 x = 0) ∧ (∀ x, 5 * np ≤ x → a 6 x = 0) ∧
  (∃ k, k ≤ 6 ∧ a 0 12 = nI k ∧ ∀ i, i < k → ∃ q, q < np ∧ a 11 i = nI q) ∧ (∀ x, a 9 x = 0 ∨ a 9 x = 1) ∧ (a 0 13 = 0 ∨ a 0 13 = 1)
theorem sAlw_ca {np P hh yy rc : Nat} {a : gA} (h1 : a 1 P = nI hh) (hh6 : hh < 6) (h2 : a 2 P = nI yy) (hy : yy ≤ 999999) (h3 : a 10 hh = nI rc) (hrc : rc ≤ 4) (h4 : ∀ i, i < rc → ∃ x, x ≤ 999999 ∧ a 8 (4 * hh + i) = nI x) : sAlw a P = (caS (fun i => a 8 (4 * hh + i)) (fun i => a 9 (4 * hh + i)) yy rc).2 := by
  unfold sAlw
  rw [h1, h2, nI_clamp (by omega), nI_clamp (by omega), h3, nI_clamp (by omega)]
  exact (caS_alS (by omega) rc h4).1.symm
/-- of a body's first n words those that are one of two -/
def pCt (f : Nat → Int32) (x y : Int32) : Nat → Nat
  | 0 => 0
  | n + 1 => if f n = x ∨ f n = y then pCt f x y n + 1 else pCt f x y n
theorem pCt_le (f : Nat → Int32) (x y : Int32) : ∀ n, pCt f x y n ≤ n
  | 0 => Nat.le_refl _
  | n + 1 => by
    unfold pCt
    have := pCt_le f x y n
    split <;> omega
end
