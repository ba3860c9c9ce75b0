section
-- ===== PART A: goes FIRST, ahead of the names: the tables' words, and 'selects' of the private methods out of them =====
/-- a private method of a class that the tables say can be made, by its rows of tables_1 -/
def lw_okq (q : MethodName × Nat) : Prop := (q.1.cls ≠ "java/lang/invoke/MethodHandle" ∧ q.1.cls ≠ "java/lang/invoke/VarHandle") ∧ Cond.instantiable q.1.cls q.2 ∈ tables_1 ∧ Cond.privateMethod q.1 ∈ tables_1 ∧ Cond.instanceMethod q.1 ∈ tables_1
theorem lw_p0 : lw_okq (⟨"PoliteGatherer$Web", "isTaken", "(II)Z"⟩, 4) := ⟨⟨by decide +kernel, by decide +kernel⟩, List.mem_of_getElem? (i := 21) (by decide +kernel), List.mem_of_getElem? (i := 214) (by decide +kernel), List.mem_of_getElem? (i := 215) (by decide +kernel)⟩
theorem lw_p1 : lw_okq (⟨"PoliteGatherer", "canChange", "(I)Z"⟩, 4) := ⟨⟨by decide +kernel, by decide +kernel⟩, List.mem_of_getElem? (i := 13) (by decide +kernel), List.mem_of_getElem? (i := 262) (by decide +kernel), List.mem_of_getElem? (i := 263) (by decide +kernel)⟩
theorem lw_p2 : lw_okq (⟨"PoliteGatherer$Gathering", "setAllFrom", "(I)V"⟩, 17) := ⟨⟨by decide +kernel, by decide +kernel⟩, List.mem_of_getElem? (i := 84) (by decide +kernel), List.mem_of_getElem? (i := 319) (by decide +kernel), List.mem_of_getElem? (i := 320) (by decide +kernel)⟩
theorem lw_p3 : lw_okq (⟨"PoliteGatherer$Gathering", "enqueueAll", "(LPoliteGatherer$Row;I)V"⟩, 17) := ⟨⟨by decide +kernel, by decide +kernel⟩, List.mem_of_getElem? (i := 84) (by decide +kernel), List.mem_of_getElem? (i := 323) (by decide +kernel), List.mem_of_getElem? (i := 324) (by decide +kernel)⟩
theorem lw_p4 : lw_okq (⟨"PoliteGatherer$Gathering", "setMark", "()V"⟩, 17) := ⟨⟨by decide +kernel, by decide +kernel⟩, List.mem_of_getElem? (i := 84) (by decide +kernel), List.mem_of_getElem? (i := 336) (by decide +kernel), List.mem_of_getElem? (i := 337) (by decide +kernel)⟩
theorem lw_p5 : lw_okq (⟨"PoliteGatherer$Gathering", "fetch", "(I)V"⟩, 17) := ⟨⟨by decide +kernel, by decide +kernel⟩, List.mem_of_getElem? (i := 84) (by decide +kernel), List.mem_of_getElem? (i := 371) (by decide +kernel), List.mem_of_getElem? (i := 372) (by decide +kernel)⟩
theorem lw_p6 : lw_okq (⟨"PoliteGatherer$Ranking", "listDocuments", "()V"⟩, 8) := ⟨⟨by decide +kernel, by decide +kernel⟩, List.mem_of_getElem? (i := 148) (by decide +kernel), List.mem_of_getElem? (i := 442) (by decide +kernel), List.mem_of_getElem? (i := 443) (by decide +kernel)⟩
theorem lw_p7 : lw_okq (⟨"PoliteGatherer$Ranking", "followLinks", "(I)V"⟩, 8) := ⟨⟨by decide +kernel, by decide +kernel⟩, List.mem_of_getElem? (i := 148) (by decide +kernel), List.mem_of_getElem? (i := 450) (by decide +kernel), List.mem_of_getElem? (i := 451) (by decide +kernel)⟩
theorem lw_p8 : lw_okq (⟨"PoliteGatherer$Ranking", "playRound", "()V"⟩, 8) := ⟨⟨by decide +kernel, by decide +kernel⟩, List.mem_of_getElem? (i := 148) (by decide +kernel), List.mem_of_getElem? (i := 455) (by decide +kernel), List.mem_of_getElem? (i := 456) (by decide +kernel)⟩
theorem lw_p9 : lw_okq (⟨"PoliteGatherer$Ranking", "passOn", "(I)V"⟩, 8) := ⟨⟨by decide +kernel, by decide +kernel⟩, List.mem_of_getElem? (i := 148) (by decide +kernel), List.mem_of_getElem? (i := 459) (by decide +kernel), List.mem_of_getElem? (i := 460) (by decide +kernel)⟩
theorem lw_p10 : lw_okq (⟨"PoliteGatherer$Ranking", "placeOf", "(I)I"⟩, 8) := ⟨⟨by decide +kernel, by decide +kernel⟩, List.mem_of_getElem? (i := 148) (by decide +kernel), List.mem_of_getElem? (i := 483) (by decide +kernel), List.mem_of_getElem? (i := 484) (by decide +kernel)⟩
theorem lw_p11 : lw_okq (⟨"PoliteGatherer$Ranking", "standsBefore", "(II)Z"⟩, 8) := ⟨⟨by decide +kernel, by decide +kernel⟩, List.mem_of_getElem? (i := 148) (by decide +kernel), List.mem_of_getElem? (i := 487) (by decide +kernel), List.mem_of_getElem? (i := 488) (by decide +kernel)⟩
theorem lw_p12 : lw_okq (⟨"PoliteGathererModel", "isPage", "(I)Z"⟩, 37) := ⟨⟨by decide +kernel, by decide +kernel⟩, List.mem_of_getElem? (i := 495) (by decide +kernel), List.mem_of_getElem? (i := 622) (by decide +kernel), List.mem_of_getElem? (i := 623) (by decide +kernel)⟩
theorem lw_p13 : lw_okq (⟨"PoliteGathererModel", "taken", "(II)I"⟩, 37) := ⟨⟨by decide +kernel, by decide +kernel⟩, List.mem_of_getElem? (i := 495) (by decide +kernel), List.mem_of_getElem? (i := 650) (by decide +kernel), List.mem_of_getElem? (i := 651) (by decide +kernel)⟩
theorem lw_p14 : lw_okq (⟨"PoliteGathererModel", "queue", "(II)V"⟩, 37) := ⟨⟨by decide +kernel, by decide +kernel⟩, List.mem_of_getElem? (i := 495) (by decide +kernel), List.mem_of_getElem? (i := 658) (by decide +kernel), List.mem_of_getElem? (i := 659) (by decide +kernel)⟩
theorem lw_p15 : lw_okq (⟨"PoliteGathererModel", "mark", "()V"⟩, 37) := ⟨⟨by decide +kernel, by decide +kernel⟩, List.mem_of_getElem? (i := 495) (by decide +kernel), List.mem_of_getElem? (i := 662) (by decide +kernel), List.mem_of_getElem? (i := 663) (by decide +kernel)⟩
def lw_privs_1 : List (MethodName × Nat) := [(⟨"PoliteGatherer$Web", "isTaken", "(II)Z"⟩, 4), (⟨"PoliteGatherer", "canChange", "(I)Z"⟩, 4), (⟨"PoliteGatherer$Gathering", "setAllFrom", "(I)V"⟩, 17), (⟨"PoliteGatherer$Gathering", "enqueueAll", "(LPoliteGatherer$Row;I)V"⟩, 17), (⟨"PoliteGatherer$Gathering", "setMark", "()V"⟩, 17), (⟨"PoliteGatherer$Gathering", "fetch", "(I)V"⟩, 17), (⟨"PoliteGatherer$Ranking", "listDocuments", "()V"⟩, 8), (⟨"PoliteGatherer$Ranking", "followLinks", "(I)V"⟩, 8), (⟨"PoliteGatherer$Ranking", "playRound", "()V"⟩, 8), (⟨"PoliteGatherer$Ranking", "passOn", "(I)V"⟩, 8), (⟨"PoliteGatherer$Ranking", "placeOf", "(I)I"⟩, 8), (⟨"PoliteGatherer$Ranking", "standsBefore", "(II)Z"⟩, 8), (⟨"PoliteGathererModel", "isPage", "(I)Z"⟩, 37), (⟨"PoliteGathererModel", "taken", "(II)I"⟩, 37), (⟨"PoliteGathererModel", "queue", "(II)V"⟩, 37), (⟨"PoliteGathererModel", "mark", "()V"⟩, 37)]
theorem lw_r1 : ∀ q ∈ lw_privs_1, lw_okq q := List.forall_mem_cons.mpr ⟨lw_p0, List.forall_mem_cons.mpr ⟨lw_p1, List.forall_mem_cons.mpr ⟨lw_p2, List.forall_mem_cons.mpr ⟨lw_p3, List.forall_mem_cons.mpr ⟨lw_p4, List.forall_mem_cons.mpr ⟨lw_p5, List.forall_mem_cons.mpr ⟨lw_p6, List.forall_mem_cons.mpr ⟨lw_p7, List.forall_mem_cons.mpr ⟨lw_p8, List.forall_mem_cons.mpr ⟨lw_p9, List.forall_mem_cons.mpr ⟨lw_p10, List.forall_mem_cons.mpr ⟨lw_p11, List.forall_mem_cons.mpr ⟨lw_p12, List.forall_mem_cons.mpr ⟨lw_p13, List.forall_mem_cons.mpr ⟨lw_p14, List.forall_mem_cons.mpr ⟨lw_p15, fun _ h => absurd h List.not_mem_nil⟩⟩⟩⟩⟩⟩⟩⟩⟩⟩⟩⟩⟩⟩⟩⟩
theorem lw_p16 : lw_okq (⟨"PoliteGathererModel", "handle", "()V"⟩, 37) := ⟨⟨by decide +kernel, by decide +kernel⟩, List.mem_of_getElem? (i := 495) (by decide +kernel), List.mem_of_getElem? (i := 674) (by decide +kernel), List.mem_of_getElem? (i := 675) (by decide +kernel)⟩
theorem lw_p17 : lw_okq (⟨"PoliteGathererModel", "chase", "(IZ)I"⟩, 37) := ⟨⟨by decide +kernel, by decide +kernel⟩, List.mem_of_getElem? (i := 495) (by decide +kernel), List.mem_of_getElem? (i := 678) (by decide +kernel), List.mem_of_getElem? (i := 679) (by decide +kernel)⟩
theorem lw_p18 : lw_okq (⟨"PoliteGathererModel", "fetch", "(I)V"⟩, 37) := ⟨⟨by decide +kernel, by decide +kernel⟩, List.mem_of_getElem? (i := 495) (by decide +kernel), List.mem_of_getElem? (i := 683) (by decide +kernel), List.mem_of_getElem? (i := 684) (by decide +kernel)⟩
theorem lw_p19 : lw_okq (⟨"PoliteGathererModel", "isFetched", "(I)Z"⟩, 37) := ⟨⟨by decide +kernel, by decide +kernel⟩, List.mem_of_getElem? (i := 495) (by decide +kernel), List.mem_of_getElem? (i := 687) (by decide +kernel), List.mem_of_getElem? (i := 688) (by decide +kernel)⟩
theorem lw_p20 : lw_okq (⟨"PoliteGathererModel", "placeInCorpus", "(I)I"⟩, 37) := ⟨⟨by decide +kernel, by decide +kernel⟩, List.mem_of_getElem? (i := 495) (by decide +kernel), List.mem_of_getElem? (i := 691) (by decide +kernel), List.mem_of_getElem? (i := 692) (by decide +kernel)⟩
theorem lw_p21 : lw_okq (⟨"PoliteGathererModel", "sameBody", "(II)Z"⟩, 37) := ⟨⟨by decide +kernel, by decide +kernel⟩, List.mem_of_getElem? (i := 495) (by decide +kernel), List.mem_of_getElem? (i := 723) (by decide +kernel), List.mem_of_getElem? (i := 724) (by decide +kernel)⟩
theorem lw_p22 : lw_okq (⟨"PoliteGathererModel", "isDocument", "(I)Z"⟩, 37) := ⟨⟨by decide +kernel, by decide +kernel⟩, List.mem_of_getElem? (i := 495) (by decide +kernel), List.mem_of_getElem? (i := 731) (by decide +kernel), List.mem_of_getElem? (i := 732) (by decide +kernel)⟩
theorem lw_p23 : lw_okq (⟨"PoliteGathererModel", "rankAll", "(I)V"⟩, 37) := ⟨⟨by decide +kernel, by decide +kernel⟩, List.mem_of_getElem? (i := 495) (by decide +kernel), List.mem_of_getElem? (i := 736) (by decide +kernel), List.mem_of_getElem? (i := 737) (by decide +kernel)⟩
theorem lw_p24 : lw_okq (⟨"PoliteGathererModel", "sum", "(I)J"⟩, 37) := ⟨⟨by decide +kernel, by decide +kernel⟩, List.mem_of_getElem? (i := 495) (by decide +kernel), List.mem_of_getElem? (i := 743) (by decide +kernel), List.mem_of_getElem? (i := 744) (by decide +kernel)⟩
theorem lw_p25 : lw_okq (⟨"PoliteGathererModel", "score", "(III)J"⟩, 37) := ⟨⟨by decide +kernel, by decide +kernel⟩, List.mem_of_getElem? (i := 495) (by decide +kernel), List.mem_of_getElem? (i := 752) (by decide +kernel), List.mem_of_getElem? (i := 753) (by decide +kernel)⟩
theorem lw_p26 : lw_okq (⟨"PoliteGathererModel", "comesBefore", "(IIII)Z"⟩, 37) := ⟨⟨by decide +kernel, by decide +kernel⟩, List.mem_of_getElem? (i := 495) (by decide +kernel), List.mem_of_getElem? (i := 756) (by decide +kernel), List.mem_of_getElem? (i := 757) (by decide +kernel)⟩
def lw_privs_2 : List (MethodName × Nat) := [(⟨"PoliteGathererModel", "handle", "()V"⟩, 37), (⟨"PoliteGathererModel", "chase", "(IZ)I"⟩, 37), (⟨"PoliteGathererModel", "fetch", "(I)V"⟩, 37), (⟨"PoliteGathererModel", "isFetched", "(I)Z"⟩, 37), (⟨"PoliteGathererModel", "placeInCorpus", "(I)I"⟩, 37), (⟨"PoliteGathererModel", "sameBody", "(II)Z"⟩, 37), (⟨"PoliteGathererModel", "isDocument", "(I)Z"⟩, 37), (⟨"PoliteGathererModel", "rankAll", "(I)V"⟩, 37), (⟨"PoliteGathererModel", "sum", "(I)J"⟩, 37), (⟨"PoliteGathererModel", "score", "(III)J"⟩, 37), (⟨"PoliteGathererModel", "comesBefore", "(IIII)Z"⟩, 37)]
theorem lw_r2 : ∀ q ∈ lw_privs_2, lw_okq q := List.forall_mem_cons.mpr ⟨lw_p16, List.forall_mem_cons.mpr ⟨lw_p17, List.forall_mem_cons.mpr ⟨lw_p18, List.forall_mem_cons.mpr ⟨lw_p19, List.forall_mem_cons.mpr ⟨lw_p20, List.forall_mem_cons.mpr ⟨lw_p21, List.forall_mem_cons.mpr ⟨lw_p22, List.forall_mem_cons.mpr ⟨lw_p23, List.forall_mem_cons.mpr ⟨lw_p24, List.forall_mem_cons.mpr ⟨lw_p25, List.forall_mem_cons.mpr ⟨lw_p26, fun _ h => absurd h List.not_mem_nil⟩⟩⟩⟩⟩⟩⟩⟩⟩⟩⟩
def lw_privs : List (MethodName × Nat) := lw_privs_1 ++ (lw_privs_2)
def lw_tbl : List Cond := k2_sels lw_privs ++ tables_1
theorem lw_privs_ok : ∀ q ∈ lw_privs, lw_okq q := by
  show ∀ q ∈ lw_privs_1 ++ (lw_privs_2), lw_okq q
  exact List.forall_mem_append.mpr ⟨lw_r1, lw_r2⟩
end
section
/-! Names: classes, field tables, methods. -/
def R_PG : String := "PoliteGatherer"
def F_PG : u_T := fun k => match k with
  | 0 => ("PoliteGatherer", "web", "LPoliteGatherer$Web;", true)
  | 1 => ("PoliteGatherer", "gathering", "LPoliteGatherer$Gathering;", true)
  | 2 => ("PoliteGatherer", "ranking", "LPoliteGatherer$Ranking;", true)
  | _ => ("PoliteGatherer", "underWay", "Z", false)
def t_PG : Nat → FieldType := fun k => match k with
  | 0 => .object "PoliteGatherer$Web"
  | 1 => .object "PoliteGatherer$Gathering"
  | 2 => .object "PoliteGatherer$Ranking"
  | _ => .boolean
theorem n_PG : ∀ a, a < 4 → ∀ b, b < 4 → a ≠ b → (F_PG a).2.1 ≠ (F_PG b).2.1 := by decide +kernel
theorem t_PG_ok : ∀ k, k < 4 → parseFieldDescriptor (F_PG k).2.2.1 = some (t_PG k) := by decide +kernel
def R_Web : String := "PoliteGatherer$Web"
def F_Web : u_T := fun k => match k with
  | 0 => ("PoliteGatherer$Web", "pages", "[LPoliteGatherer$Page;", true)
  | 1 => ("PoliteGatherer$Web", "hosts", "[LPoliteGatherer$Host;", true)
  | 2 => ("PoliteGatherer$Web", "firsts", "LPoliteGatherer$Row;", true)
  | _ => ("PoliteGatherer$Web", "pageCount", "I", false)
def t_Web : Nat → FieldType := fun k => match k with
  | 0 => .array (.object "PoliteGatherer$Page")
  | 1 => .array (.object "PoliteGatherer$Host")
  | 2 => .object "PoliteGatherer$Row"
  | _ => .int
theorem n_Web : ∀ a, a < 4 → ∀ b, b < 4 → a ≠ b → (F_Web a).2.1 ≠ (F_Web b).2.1 := by decide +kernel
theorem t_Web_ok : ∀ k, k < 4 → parseFieldDescriptor (F_Web k).2.2.1 = some (t_Web k) := by decide +kernel
def R_Host : String := "PoliteGatherer$Host"
def F_Host : u_T := fun k => match k with
  | 0 => ("PoliteGatherer$Host", "prefixes", "[I", true)
  | 1 => ("PoliteGatherer$Host", "allowing", "[Z", true)
  | _ => ("PoliteGatherer$Host", "ruleCount", "I", false)
def t_Host : Nat → FieldType := fun k => match k with
  | 0 => .array .int
  | 1 => .array .boolean
  | _ => .int
theorem n_Host : ∀ a, a < 3 → ∀ b, b < 3 → a ≠ b → (F_Host a).2.1 ≠ (F_Host b).2.1 := by decide +kernel
theorem t_Host_ok : ∀ k, k < 3 → parseFieldDescriptor (F_Host k).2.2.1 = some (t_Host k) := by decide +kernel
def R_Row : String := "PoliteGatherer$Row"
def F_Row : u_T := fun k => match k with
  | 0 => ("PoliteGatherer$Row", "items", "[I", true)
  | _ => ("PoliteGatherer$Row", "size", "I", false)
def t_Row : Nat → FieldType := fun k => match k with
  | 0 => .array .int
  | _ => .int
theorem n_Row : ∀ a, a < 2 → ∀ b, b < 2 → a ≠ b → (F_Row a).2.1 ≠ (F_Row b).2.1 := by decide +kernel
theorem t_Row_ok : ∀ k, k < 2 → parseFieldDescriptor (F_Row k).2.2.1 = some (t_Row k) := by decide +kernel
def R_Page : String := "PoliteGatherer$Page"
def F_Page : u_T := fun k => match k with
  | 0 => ("PoliteGatherer$Page", "host", "I", true)
  | 1 => ("PoliteGatherer$Page", "path", "I", true)
  | 2 => ("PoliteGatherer$Page", "body", "LPoliteGatherer$Row;", true)
  | 3 => ("PoliteGatherer$Page", "links", "LPoliteGatherer$Row;", true)
  | 4 => ("PoliteGatherer$Page", "reply", "LPoliteGatherer$Reply;", false)
  | _ => ("PoliteGatherer$Page", "target", "I", false)
def t_Page : Nat → FieldType := fun k => match k with
  | 0 => .int
  | 1 => .int
  | 2 => .object "PoliteGatherer$Row"
  | 3 => .object "PoliteGatherer$Row"
  | 4 => .object "PoliteGatherer$Reply"
  | _ => .int
theorem n_Page : ∀ a, a < 6 → ∀ b, b < 6 → a ≠ b → (F_Page a).2.1 ≠ (F_Page b).2.1 := by decide +kernel
theorem t_Page_ok : ∀ k, k < 6 → parseFieldDescriptor (F_Page k).2.2.1 = some (t_Page k) := by decide +kernel
def R_Gat : String := "PoliteGatherer$Gathering"
def F_Gat : u_T := fun k => match k with
  | 0 => ("PoliteGatherer$Gathering", "web", "LPoliteGatherer$Web;", true)
  | 1 => ("PoliteGatherer$Gathering", "queued", "LPoliteGatherer$Row;", true)
  | 2 => ("PoliteGatherer$Gathering", "depths", "LPoliteGatherer$Row;", true)
  | 3 => ("PoliteGatherer$Gathering", "fetched", "LPoliteGatherer$Row;", true)
  | 4 => ("PoliteGatherer$Gathering", "corpus", "LPoliteGatherer$Row;", true)
  | 5 => ("PoliteGatherer$Gathering", "from", "[I", true)
  | 6 => ("PoliteGatherer$Gathering", "limit", "I", false)
  | 7 => ("PoliteGatherer$Gathering", "hops", "I", false)
  | 8 => ("PoliteGatherer$Gathering", "delay", "I", false)
  | 9 => ("PoliteGatherer$Gathering", "every", "I", false)
  | 10 => ("PoliteGatherer$Gathering", "handled", "I", false)
  | 11 => ("PoliteGatherer$Gathering", "now", "I", false)
  | 12 => ("PoliteGatherer$Gathering", "fetchCount", "I", false)
  | 13 => ("PoliteGatherer$Gathering", "handledAtMark", "I", false)
  | 14 => ("PoliteGatherer$Gathering", "queuedAtMark", "I", false)
  | 15 => ("PoliteGatherer$Gathering", "fetchedAtMark", "I", false)
  | _ => ("PoliteGatherer$Gathering", "corpusAtMark", "I", false)
def t_Gat : Nat → FieldType := fun k => match k with
  | 0 => .object "PoliteGatherer$Web"
  | 1 => .object "PoliteGatherer$Row"
  | 2 => .object "PoliteGatherer$Row"
  | 3 => .object "PoliteGatherer$Row"
  | 4 => .object "PoliteGatherer$Row"
  | 5 => .array .int
  | 6 => .int
  | 7 => .int
  | 8 => .int
  | 9 => .int
  | 10 => .int
  | 11 => .int
  | 12 => .int
  | 13 => .int
  | 14 => .int
  | 15 => .int
  | _ => .int
theorem n_Gat : ∀ a, a < 17 → ∀ b, b < 17 → a ≠ b → (F_Gat a).2.1 ≠ (F_Gat b).2.1 := by decide +kernel
theorem t_Gat_ok : ∀ k, k < 17 → parseFieldDescriptor (F_Gat k).2.2.1 = some (t_Gat k) := by decide +kernel
def R_Rank : String := "PoliteGatherer$Ranking"
def F_Rank : u_T := fun k => match k with
  | 0 => ("PoliteGatherer$Ranking", "web", "LPoliteGatherer$Web;", true)
  | 1 => ("PoliteGatherer$Ranking", "gathering", "LPoliteGatherer$Gathering;", true)
  | 2 => ("PoliteGatherer$Ranking", "documents", "LPoliteGatherer$Row;", true)
  | 3 => ("PoliteGatherer$Ranking", "leads", "[[I", true)
  | 4 => ("PoliteGatherer$Ranking", "leading", "[I", true)
  | 5 => ("PoliteGatherer$Ranking", "ranks", "[J", true)
  | 6 => ("PoliteGatherer$Ranking", "sums", "[J", true)
  | _ => ("PoliteGatherer$Ranking", "scores", "[J", true)
def t_Rank : Nat → FieldType := fun k => match k with
  | 0 => .object "PoliteGatherer$Web"
  | 1 => .object "PoliteGatherer$Gathering"
  | 2 => .object "PoliteGatherer$Row"
  | 3 => .array (.array .int)
  | 4 => .array .int
  | 5 => .array .long
  | 6 => .array .long
  | _ => .array .long
theorem n_Rank : ∀ a, a < 8 → ∀ b, b < 8 → a ≠ b → (F_Rank a).2.1 ≠ (F_Rank b).2.1 := by decide +kernel
theorem t_Rank_ok : ∀ k, k < 8 → parseFieldDescriptor (F_Rank k).2.2.1 = some (t_Rank k) := by decide +kernel
def R_Mod : String := "PoliteGathererModel"
def F_Mod : u_T := fun k => match k with
  | 0 => ("PoliteGathererModel", "pages", "I", false)
  | 1 => ("PoliteGathererModel", "host", "[I", true)
  | 2 => ("PoliteGathererModel", "path", "[I", true)
  | 3 => ("PoliteGathererModel", "reply", "[I", true)
  | 4 => ("PoliteGathererModel", "words", "[I", true)
  | 5 => ("PoliteGathererModel", "wordCount", "[I", true)
  | 6 => ("PoliteGathererModel", "goes", "[I", true)
  | 7 => ("PoliteGathererModel", "linkCount", "[I", true)
  | 8 => ("PoliteGathererModel", "prefixes", "[I", true)
  | 9 => ("PoliteGathererModel", "allowing", "[Z", true)
  | 10 => ("PoliteGathererModel", "ruleCount", "[I", true)
  | 11 => ("PoliteGathererModel", "starts", "[I", true)
  | 12 => ("PoliteGathererModel", "startCount", "I", false)
  | 13 => ("PoliteGathererModel", "on", "Z", false)
  | 14 => ("PoliteGathererModel", "limit", "I", false)
  | 15 => ("PoliteGathererModel", "hops", "I", false)
  | 16 => ("PoliteGathererModel", "delay", "I", false)
  | 17 => ("PoliteGathererModel", "every", "I", false)
  | 18 => ("PoliteGathererModel", "entryPage", "[I", true)
  | 19 => ("PoliteGathererModel", "entryDepth", "[I", true)
  | 20 => ("PoliteGathererModel", "head", "I", false)
  | 21 => ("PoliteGathererModel", "queued", "I", false)
  | 22 => ("PoliteGathererModel", "fetchedPages", "[I", true)
  | 23 => ("PoliteGathererModel", "fetched", "I", false)
  | 24 => ("PoliteGathererModel", "corpus", "[I", true)
  | 25 => ("PoliteGathererModel", "gathered", "I", false)
  | 26 => ("PoliteGathererModel", "now", "I", false)
  | 27 => ("PoliteGathererModel", "from", "[I", true)
  | 28 => ("PoliteGathererModel", "total", "I", false)
  | 29 => ("PoliteGathererModel", "markHead", "I", false)
  | 30 => ("PoliteGathererModel", "markQueued", "I", false)
  | 31 => ("PoliteGathererModel", "markFetched", "I", false)
  | 32 => ("PoliteGathererModel", "markGathered", "I", false)
  | 33 => ("PoliteGathererModel", "since", "I", false)
  | 34 => ("PoliteGathererModel", "leads", "[I", true)
  | 35 => ("PoliteGathererModel", "ranks", "[J", true)
  | _ => ("PoliteGathererModel", "before", "[J", true)
def t_Mod : Nat → FieldType := fun k => match k with
  | 0 => .int
  | 1 => .array .int
  | 2 => .array .int
  | 3 => .array .int
  | 4 => .array .int
  | 5 => .array .int
  | 6 => .array .int
  | 7 => .array .int
  | 8 => .array .int
  | 9 => .array .boolean
  | 10 => .array .int
  | 11 => .array .int
  | 12 => .int
  | 13 => .boolean
  | 14 => .int
  | 15 => .int
  | 16 => .int
  | 17 => .int
  | 18 => .array .int
  | 19 => .array .int
  | 20 => .int
  | 21 => .int
  | 22 => .array .int
  | 23 => .int
  | 24 => .array .int
  | 25 => .int
  | 26 => .int
  | 27 => .array .int
  | 28 => .int
  | 29 => .int
  | 30 => .int
  | 31 => .int
  | 32 => .int
  | 33 => .int
  | 34 => .array .int
  | 35 => .array .long
  | _ => .array .long
theorem n_Mod : ∀ a, a < 37 → ∀ b, b < 37 → a ≠ b → (F_Mod a).2.1 ≠ (F_Mod b).2.1 := by decide +kernel
theorem t_Mod_ok : ∀ k, k < 37 → parseFieldDescriptor (F_Mod k).2.2.1 = some (t_Mod k) := by decide +kernel
def R_Reply : String := "PoliteGatherer$Reply"
def gRd : String := "LPoliteGatherer$Reply;"
abbrev gcl : List vw_C := [(R_PG, F_PG, 4), (R_Web, F_Web, 4), (R_Host, F_Host, 3), (R_Row, F_Row, 2), (R_Page, F_Page, 6), (R_Gat, F_Gat, 17), (R_Rank, F_Rank, 8), (R_Mod, F_Mod, 37)]
abbrev b_PG_init : ByteArray := prog_1_method_1_code
def y_PG_init : MethodName := ⟨R_PG, "<init>", "()V"⟩
abbrev b_PG_page : ByteArray := prog_1_method_2_code
def y_PG_page : MethodName := ⟨R_PG, "page", "(II)I"⟩
abbrev b_PG_write : ByteArray := prog_1_method_3_code
def y_PG_write : MethodName := ⟨R_PG, "write", "(II)Z"⟩
abbrev b_PG_link : ByteArray := prog_1_method_4_code
def y_PG_link : MethodName := ⟨R_PG, "link", "(II)Z"⟩
abbrev b_PG_move : ByteArray := prog_1_method_5_code
def y_PG_move : MethodName := ⟨R_PG, "move", "(II)Z"⟩
abbrev b_PG_drop : ByteArray := prog_1_method_6_code
def y_PG_drop : MethodName := ⟨R_PG, "drop", "(I)Z"⟩
abbrev b_PG_rule : ByteArray := prog_1_method_7_code
def y_PG_rule : MethodName := ⟨R_PG, "rule", "(IIZ)Z"⟩
abbrev b_PG_first : ByteArray := prog_1_method_8_code
def y_PG_first : MethodName := ⟨R_PG, "first", "(I)Z"⟩
abbrev b_PG_begin : ByteArray := prog_1_method_9_code
def y_PG_begin : MethodName := ⟨R_PG, "begin", "(IIII)Z"⟩
abbrev b_PG_stop : ByteArray := prog_1_method_10_code
def y_PG_stop : MethodName := ⟨R_PG, "stop", "()Z"⟩
abbrev b_PG_work : ByteArray := prog_1_method_11_code
def y_PG_work : MethodName := ⟨R_PG, "work", "(I)I"⟩
abbrev b_PG_crash : ByteArray := prog_1_method_12_code
def y_PG_crash : MethodName := ⟨R_PG, "crash", "()I"⟩
abbrev b_PG_allowed : ByteArray := prog_1_method_13_code
def y_PG_allowed : MethodName := ⟨R_PG, "allowed", "(I)Z"⟩
abbrev b_PG_found : ByteArray := prog_1_method_14_code
def y_PG_found : MethodName := ⟨R_PG, "found", "(I)I"⟩
abbrev b_PG_clock : ByteArray := prog_1_method_15_code
def y_PG_clock : MethodName := ⟨R_PG, "clock", "()I"⟩
abbrev b_PG_fetches : ByteArray := prog_1_method_16_code
def y_PG_fetches : MethodName := ⟨R_PG, "fetches", "()I"⟩
abbrev b_PG_waiting : ByteArray := prog_1_method_17_code
def y_PG_waiting : MethodName := ⟨R_PG, "waiting", "()I"⟩
abbrev b_PG_corpusAt : ByteArray := prog_1_method_18_code
def y_PG_corpusAt : MethodName := ⟨R_PG, "corpusAt", "(I)I"⟩
abbrev b_PG_document : ByteArray := prog_1_method_19_code
def y_PG_document : MethodName := ⟨R_PG, "document", "(I)I"⟩
abbrev b_PG_rank : ByteArray := prog_1_method_20_code
def y_PG_rank : MethodName := ⟨R_PG, "rank", "(II)J"⟩
abbrev b_PG_best : ByteArray := prog_1_method_21_code
def y_PG_best : MethodName := ⟨R_PG, "best", "(III)I"⟩
abbrev b_PG_canChange : ByteArray := prog_1_method_22_code
def y_PG_canChange : MethodName := ⟨R_PG, "canChange", "(I)Z"⟩
abbrev b_PG_isWithin : ByteArray := prog_1_method_23_code
def y_PG_isWithin : MethodName := ⟨R_PG, "isWithin", "(III)Z"⟩
abbrev b_PG_isHost : ByteArray := prog_1_method_24_code
def y_PG_isHost : MethodName := ⟨R_PG, "isHost", "(I)Z"⟩
abbrev b_Web_init : ByteArray := prog_8_method_1_code
def y_Web_init : MethodName := ⟨R_Web, "<init>", "()V"⟩
abbrev b_Web_isPage : ByteArray := prog_8_method_2_code
def y_Web_isPage : MethodName := ⟨R_Web, "isPage", "(I)Z"⟩
abbrev b_Web_addPage : ByteArray := prog_8_method_3_code
def y_Web_addPage : MethodName := ⟨R_Web, "addPage", "(II)I"⟩
abbrev b_Web_isTaken : ByteArray := prog_8_method_4_code
def y_Web_isTaken : MethodName := ⟨R_Web, "isTaken", "(II)Z"⟩
abbrev b_Web_isAllowed : ByteArray := prog_8_method_5_code
def y_Web_isAllowed : MethodName := ⟨R_Web, "isAllowed", "(I)Z"⟩
abbrev b_Host_init : ByteArray := prog_3_method_1_code
def y_Host_init : MethodName := ⟨R_Host, "<init>", "()V"⟩
abbrev b_Host_addRule : ByteArray := prog_3_method_2_code
def y_Host_addRule : MethodName := ⟨R_Host, "addRule", "(IZ)Z"⟩
abbrev b_Host_allowsPath : ByteArray := prog_3_method_3_code
def y_Host_allowsPath : MethodName := ⟨R_Host, "allowsPath", "(I)Z"⟩
abbrev b_Host_isPrefix : ByteArray := prog_3_method_4_code
def y_Host_isPrefix : MethodName := ⟨R_Host, "isPrefix", "(II)Z"⟩
abbrev b_Row_init : ByteArray := prog_7_method_1_code
def y_Row_init : MethodName := ⟨R_Row, "<init>", "(I)V"⟩
abbrev b_Row_add : ByteArray := prog_7_method_2_code
def y_Row_add : MethodName := ⟨R_Row, "add", "(I)Z"⟩
abbrev b_Row_at : ByteArray := prog_7_method_3_code
def y_Row_at : MethodName := ⟨R_Row, "at", "(I)I"⟩
abbrev b_Row_holds : ByteArray := prog_7_method_4_code
def y_Row_holds : MethodName := ⟨R_Row, "holds", "(I)Z"⟩
abbrev b_Row_sameAs : ByteArray := prog_7_method_5_code
def y_Row_sameAs : MethodName := ⟨R_Row, "sameAs", "(LPoliteGatherer$Row;)Z"⟩
abbrev b_Row_cutTo : ByteArray := prog_7_method_6_code
def y_Row_cutTo : MethodName := ⟨R_Row, "cutTo", "(I)V"⟩
abbrev b_Page_init : ByteArray := prog_4_method_1_code
def y_Page_init : MethodName := ⟨R_Page, "<init>", "(II)V"⟩
abbrev b_Page_comesBefore : ByteArray := prog_4_method_2_code
def y_Page_comesBefore : MethodName := ⟨R_Page, "comesBefore", "(LPoliteGatherer$Page;)Z"⟩
abbrev b_Page_placesOf : ByteArray := prog_4_method_3_code
def y_Page_placesOf : MethodName := ⟨R_Page, "placesOf", "(II)I"⟩
abbrev b_Gat_init : ByteArray := prog_2_method_1_code
def y_Gat_init : MethodName := ⟨R_Gat, "<init>", "(LPoliteGatherer$Web;)V"⟩
abbrev b_Gat_startAnew : ByteArray := prog_2_method_2_code
def y_Gat_startAnew : MethodName := ⟨R_Gat, "startAnew", "(IIII)V"⟩
abbrev b_Gat_entriesLeft : ByteArray := prog_2_method_3_code
def y_Gat_entriesLeft : MethodName := ⟨R_Gat, "entriesLeft", "()I"⟩
abbrev b_Gat_handleEntry : ByteArray := prog_2_method_4_code
def y_Gat_handleEntry : MethodName := ⟨R_Gat, "handleEntry", "()V"⟩
abbrev b_Gat_chase : ByteArray := prog_2_method_5_code
def y_Gat_chase : MethodName := ⟨R_Gat, "chase", "(IZ)I"⟩
abbrev b_Gat_fallBack : ByteArray := prog_2_method_6_code
def y_Gat_fallBack : MethodName := ⟨R_Gat, "fallBack", "()I"⟩
abbrev b_Gat_fetch : ByteArray := prog_2_method_7_code
def y_Gat_fetch : MethodName := ⟨R_Gat, "fetch", "(I)V"⟩
abbrev b_Gat_enqueueAll : ByteArray := prog_2_method_8_code
def y_Gat_enqueueAll : MethodName := ⟨R_Gat, "enqueueAll", "(LPoliteGatherer$Row;I)V"⟩
abbrev b_Gat_setAllFrom : ByteArray := prog_2_method_9_code
def y_Gat_setAllFrom : MethodName := ⟨R_Gat, "setAllFrom", "(I)V"⟩
abbrev b_Gat_setMark : ByteArray := prog_2_method_10_code
def y_Gat_setMark : MethodName := ⟨R_Gat, "setMark", "()V"⟩
abbrev b_Rank_init : ByteArray := prog_5_method_1_code
def y_Rank_init : MethodName := ⟨R_Rank, "<init>", "(LPoliteGatherer$Web;LPoliteGatherer$Gathering;)V"⟩
abbrev b_Rank_documentOf : ByteArray := prog_5_method_2_code
def y_Rank_documentOf : MethodName := ⟨R_Rank, "documentOf", "(I)I"⟩
abbrev b_Rank_isDocument : ByteArray := prog_5_method_3_code
def y_Rank_isDocument : MethodName := ⟨R_Rank, "isDocument", "(I)Z"⟩
abbrev b_Rank_computeRanks : ByteArray := prog_5_method_4_code
def y_Rank_computeRanks : MethodName := ⟨R_Rank, "computeRanks", "(I)V"⟩
abbrev b_Rank_computeScores : ByteArray := prog_5_method_5_code
def y_Rank_computeScores : MethodName := ⟨R_Rank, "computeScores", "(II)V"⟩
abbrev b_Rank_documentAtPlace : ByteArray := prog_5_method_6_code
def y_Rank_documentAtPlace : MethodName := ⟨R_Rank, "documentAtPlace", "(I)I"⟩
abbrev b_Rank_listDocuments : ByteArray := prog_5_method_7_code
def y_Rank_listDocuments : MethodName := ⟨R_Rank, "listDocuments", "()V"⟩
abbrev b_Rank_followLinks : ByteArray := prog_5_method_8_code
def y_Rank_followLinks : MethodName := ⟨R_Rank, "followLinks", "(I)V"⟩
abbrev b_Rank_playRound : ByteArray := prog_5_method_9_code
def y_Rank_playRound : MethodName := ⟨R_Rank, "playRound", "()V"⟩
abbrev b_Rank_passOn : ByteArray := prog_5_method_10_code
def y_Rank_passOn : MethodName := ⟨R_Rank, "passOn", "(I)V"⟩
abbrev b_Rank_placeOf : ByteArray := prog_5_method_11_code
def y_Rank_placeOf : MethodName := ⟨R_Rank, "placeOf", "(I)I"⟩
abbrev b_Rank_standsBefore : ByteArray := prog_5_method_12_code
def y_Rank_standsBefore : MethodName := ⟨R_Rank, "standsBefore", "(II)Z"⟩
abbrev b_Mod_init : ByteArray := prog_10_method_1_code
def y_Mod_init : MethodName := ⟨R_Mod, "<init>", "()V"⟩
abbrev b_Mod_isPage : ByteArray := prog_10_method_2_code
def y_Mod_isPage : MethodName := ⟨R_Mod, "isPage", "(I)Z"⟩
abbrev b_Mod_page : ByteArray := prog_10_method_3_code
def y_Mod_page : MethodName := ⟨R_Mod, "page", "(II)I"⟩
abbrev b_Mod_write : ByteArray := prog_10_method_4_code
def y_Mod_write : MethodName := ⟨R_Mod, "write", "(II)Z"⟩
abbrev b_Mod_link : ByteArray := prog_10_method_5_code
def y_Mod_link : MethodName := ⟨R_Mod, "link", "(II)Z"⟩
abbrev b_Mod_move : ByteArray := prog_10_method_6_code
def y_Mod_move : MethodName := ⟨R_Mod, "move", "(II)Z"⟩
abbrev b_Mod_drop : ByteArray := prog_10_method_7_code
def y_Mod_drop : MethodName := ⟨R_Mod, "drop", "(I)Z"⟩
abbrev b_Mod_rule : ByteArray := prog_10_method_8_code
def y_Mod_rule : MethodName := ⟨R_Mod, "rule", "(IIZ)Z"⟩
abbrev b_Mod_first : ByteArray := prog_10_method_9_code
def y_Mod_first : MethodName := ⟨R_Mod, "first", "(I)Z"⟩
abbrev b_Mod_taken : ByteArray := prog_10_method_10_code
def y_Mod_taken : MethodName := ⟨R_Mod, "taken", "(II)I"⟩
abbrev b_Mod_allowed : ByteArray := prog_10_method_11_code
def y_Mod_allowed : MethodName := ⟨R_Mod, "allowed", "(I)Z"⟩
abbrev b_Mod_isFetched : ByteArray := prog_10_method_12_code
def y_Mod_isFetched : MethodName := ⟨R_Mod, "isFetched", "(I)Z"⟩
abbrev b_Mod_fetch : ByteArray := prog_10_method_13_code
def y_Mod_fetch : MethodName := ⟨R_Mod, "fetch", "(I)V"⟩
abbrev b_Mod_chase : ByteArray := prog_10_method_14_code
def y_Mod_chase : MethodName := ⟨R_Mod, "chase", "(IZ)I"⟩
abbrev b_Mod_placeInCorpus : ByteArray := prog_10_method_15_code
def y_Mod_placeInCorpus : MethodName := ⟨R_Mod, "placeInCorpus", "(I)I"⟩
abbrev b_Mod_queue : ByteArray := prog_10_method_16_code
def y_Mod_queue : MethodName := ⟨R_Mod, "queue", "(II)V"⟩
abbrev b_Mod_handle : ByteArray := prog_10_method_17_code
def y_Mod_handle : MethodName := ⟨R_Mod, "handle", "()V"⟩
abbrev b_Mod_mark : ByteArray := prog_10_method_18_code
def y_Mod_mark : MethodName := ⟨R_Mod, "mark", "()V"⟩
abbrev b_Mod_begin : ByteArray := prog_10_method_19_code
def y_Mod_begin : MethodName := ⟨R_Mod, "begin", "(IIII)Z"⟩
abbrev b_Mod_stop : ByteArray := prog_10_method_20_code
def y_Mod_stop : MethodName := ⟨R_Mod, "stop", "()Z"⟩
abbrev b_Mod_work : ByteArray := prog_10_method_21_code
def y_Mod_work : MethodName := ⟨R_Mod, "work", "(I)I"⟩
abbrev b_Mod_crash : ByteArray := prog_10_method_22_code
def y_Mod_crash : MethodName := ⟨R_Mod, "crash", "()I"⟩
abbrev b_Mod_found : ByteArray := prog_10_method_23_code
def y_Mod_found : MethodName := ⟨R_Mod, "found", "(I)I"⟩
abbrev b_Mod_clock : ByteArray := prog_10_method_24_code
def y_Mod_clock : MethodName := ⟨R_Mod, "clock", "()I"⟩
abbrev b_Mod_fetches : ByteArray := prog_10_method_25_code
def y_Mod_fetches : MethodName := ⟨R_Mod, "fetches", "()I"⟩
abbrev b_Mod_waiting : ByteArray := prog_10_method_26_code
def y_Mod_waiting : MethodName := ⟨R_Mod, "waiting", "()I"⟩
abbrev b_Mod_corpusAt : ByteArray := prog_10_method_27_code
def y_Mod_corpusAt : MethodName := ⟨R_Mod, "corpusAt", "(I)I"⟩
abbrev b_Mod_sameBody : ByteArray := prog_10_method_28_code
def y_Mod_sameBody : MethodName := ⟨R_Mod, "sameBody", "(II)Z"⟩
abbrev b_Mod_document : ByteArray := prog_10_method_29_code
def y_Mod_document : MethodName := ⟨R_Mod, "document", "(I)I"⟩
abbrev b_Mod_isDocument : ByteArray := prog_10_method_30_code
def y_Mod_isDocument : MethodName := ⟨R_Mod, "isDocument", "(I)Z"⟩
abbrev b_Mod_rankAll : ByteArray := prog_10_method_31_code
def y_Mod_rankAll : MethodName := ⟨R_Mod, "rankAll", "(I)V"⟩
abbrev b_Mod_sum : ByteArray := prog_10_method_32_code
def y_Mod_sum : MethodName := ⟨R_Mod, "sum", "(I)J"⟩
abbrev b_Mod_rank : ByteArray := prog_10_method_33_code
def y_Mod_rank : MethodName := ⟨R_Mod, "rank", "(II)J"⟩
abbrev b_Mod_score : ByteArray := prog_10_method_34_code
def y_Mod_score : MethodName := ⟨R_Mod, "score", "(III)J"⟩
abbrev b_Mod_comesBefore : ByteArray := prog_10_method_35_code
def y_Mod_comesBefore : MethodName := ⟨R_Mod, "comesBefore", "(IIII)Z"⟩
abbrev b_Mod_best : ByteArray := prog_10_method_36_code
def y_Mod_best : MethodName := ⟨R_Mod, "best", "(III)I"⟩
end
section
/-! The picture of the whole heap: cells by numbers, the abstract state, reading and writing. -/
abbrev gG : Type := va_G × (Nat → ClassId) × (Nat → Nat)
abbrev gA : Type := Nat → Nat → Int32
abbrev gL : Type := Nat → Nat → Int64
abbrev gS : Type := gA × gA × gL
def gty (g : gG) : List (ClassId × FieldType) := [(g.2.1 0, .int), (g.2.1 1, .boolean), (g.2.1 2, .long), (g.2.1 3, .object R_Page), (g.2.1 4, .object R_Host), (g.2.1 5, .array .int)]
def gu (f : gA) (k j : Nat) (v : Int32) : gA := fun k' => if k' = k then upd (f k') j v else f k'
def guL (f : gL) (k j : Nat) (v : Int64) : gL := fun k' => if k' = k then vp_updL (f k') j v else f k'
theorem gu_self (f : gA) (k j : Nat) (v : Int32) : gu f k j v k = upd (f k) j v := if_pos rfl
theorem gu_ne {f : gA} {k k' j : Nat} {v : Int32} (h : k' ≠ k) : gu f k j v k' = f k' := if_neg h
theorem guL_self (f : gL) (k j : Nat) (v : Int64) : guL f k j v k = vp_updL (f k) j v := if_pos rfl
theorem guL_ne {f : gL} {k k' j : Nat} {v : Int64} (h : k' ≠ k) : guL f k j v k' = f k' := if_neg h
theorem gu_hit (f : gA) (k j : Nat) (v : Int32) : gu f k j v k j = v := by rw [gu_self]; exact pk_us
theorem gu_off {f : gA} {k j k' j' : Nat} {v : Int32} (h : ¬ (k' = k ∧ j' = j)) : gu f k j v k' j' = f k' j' := by
  by_cases hk : k' = k
  · subst hk
    rw [gu_self]
    exact pk_un (fun e => h ⟨rfl, e⟩)
  · rw [gu_ne hk]
def gkf : List Nat := [0, 1, 11, 12, 2, 8, 9, 2, 8, 9, 2, 8, 9, 2, 8, 9, 2, 8, 9, 2, 8, 9, 3, 8, 5, 3, 8, 3, 8, 3, 8, 3, 8, 8, 6, 3, 8, 13, 8, 8, 8, 8, 8, 8, 8, 8, 8, 8, 8, 8, 8, 8, 8, 8, 8, 8, 8, 8, 8, 8, 8, 8, 8, 8, 8, 8, 8, 8, 8, 8, 8, 10, 10, 10, 7, 8, 8, 8, 8, 8, 8, 8, 8, 9, 8, 8, 8, 8, 8, 8, 8, 8, 10, 10]
def gnf : List Nat := [0, 0, 0, 0, 0, 4, 4, 0, 4, 4, 0, 4, 4, 0, 4, 4, 0, 4, 4, 0, 4, 4, 0, 6, 0, 0, 32, 0, 32, 0, 32, 0, 32, 6, 0, 0, 32, 0, 5, 5, 5, 5, 5, 5, 5, 5, 5, 5, 5, 5, 5, 5, 5, 5, 5, 5, 5, 5, 5, 5, 5, 5, 5, 5, 5, 5, 5, 5, 5, 5, 32, 32, 32, 32, 0, 32, 32, 32, 256, 32, 160, 32, 24, 24, 6, 6, 32, 32, 32, 32, 6, 160, 32, 32]
def gk (k : Nat) : Nat := if k < 94 then gkf.getD k 0 else [4, 3, 8, 3, 8].getD ((k - 94) % 5) 0
def gn (k : Nat) : Nat := if k < 94 then gnf.getD k 0 else [0, 0, 8, 0, 5].getD ((k - 94) % 5) 0
def gp (p : Nat) : Nat := 94 + 5 * p
theorem gk_p (p : Nat) {r : Nat} (hr : r < 5) : gk (gp p + r) = [4, 3, 8, 3, 8].getD r 0 ∧ gn (gp p + r) = [0, 0, 8, 0, 5].getD r 0 := by
  unfold gk gn gp
  rw [if_neg (by omega), if_neg (by omega), show (94 + 5 * p + r - 94) % 5 = r by omega]
  exact ⟨rfl, rfl⟩
theorem gk_p0 (p : Nat) : gk (gp p) = 4 := (gk_p p (r := 0) (by omega)).1
theorem gk_p1 (p : Nat) : gk (gp p + 1) = 3 := (gk_p p (r := 1) (by omega)).1
theorem gk_p2 (p : Nat) : gk (gp p + 2) = 8 := (gk_p p (r := 2) (by omega)).1
theorem gk_p3 (p : Nat) : gk (gp p + 3) = 3 := (gk_p p (r := 3) (by omega)).1
theorem gk_p4 (p : Nat) : gk (gp p + 4) = 8 := (gk_p p (r := 4) (by omega)).1
theorem gn_p2 (p : Nat) : gn (gp p + 2) = 8 := (gk_p p (r := 2) (by omega)).2
theorem gn_p4 (p : Nat) : gn (gp p + 4) = 5 := (gk_p p (r := 4) (by omega)).2
theorem gk_h0 {h : Nat} (hh : h < 6) : gk (4 + 3 * h) = 2 := (show ∀ h : Fin 6, gk (4 + 3 * h.val) = 2 by decide) ⟨h, hh⟩
theorem gk_h1 {h : Nat} (hh : h < 6) : gk (4 + 3 * h + 1) = 8 ∧ gn (4 + 3 * h + 1) = 4 := (show ∀ h : Fin 6, gk (4 + 3 * h.val + 1) = 8 ∧ gn (4 + 3 * h.val + 1) = 4 by decide) ⟨h, hh⟩
theorem gk_h2 {h : Nat} (hh : h < 6) : gk (4 + 3 * h + 2) = 9 ∧ gn (4 + 3 * h + 2) = 4 := (show ∀ h : Fin 6, gk (4 + 3 * h.val + 2) = 9 ∧ gn (4 + 3 * h.val + 2) = 4 by decide) ⟨h, hh⟩
theorem gk_l {d : Nat} (hd : d < 32) : gk (38 + d) = 8 ∧ gn (38 + d) = 5 := (show ∀ d : Fin 32, gk (38 + d.val) = 8 ∧ gn (38 + d.val) = 5 by decide) ⟨d, hd⟩
abbrev gf0 (ad : Nat → Nat) (r : Nat → Int32) : List Value := [.ref (ad 1), .ref (ad 24), .ref (ad 34), .int (r 3)]
abbrev gf1 (ad : Nat → Nat) (r : Nat → Int32) : List Value := [.ref (ad 2), .ref (ad 3), .ref (ad 22), .int (r 3)]
abbrev gf2 (ad : Nat → Nat) (k : Nat) (r : Nat → Int32) : List Value := [.ref (ad (k + 1)), .ref (ad (k + 2)), .int (r 2)]
abbrev gf3 (ad : Nat → Nat) (k : Nat) (r : Nat → Int32) : List Value := [.ref (ad (k + 1)), .int (r 1)]
abbrev gf4 (g : gG) (ad : Nat → Nat) (k : Nat) (r : Nat → Int32) : List Value := [.int (r 0), .int (r 1), .ref (ad (k + 1)), .ref (ad (k + 3)), .ref (g.2.2 (r 4).toNatClampNeg), .int (r 5)]
abbrev gf5 (ad : Nat → Nat) (r : Nat → Int32) : List Value := [.ref (ad 1), .ref (ad 25), .ref (ad 27), .ref (ad 29), .ref (ad 31), .ref (ad 33), .int (r 6), .int (r 7), .int (r 8), .int (r 9), .int (r 10), .int (r 11), .int (r 12), .int (r 13), .int (r 14), .int (r 15), .int (r 16)]
abbrev gf6 (ad : Nat → Nat) : List Value := [.ref (ad 1), .ref (ad 24), .ref (ad 35), .ref (ad 37), .ref (ad 70), .ref (ad 71), .ref (ad 72), .ref (ad 73)]
abbrev gf7 (ad : Nat → Nat) (r : Nat → Int32) : List Value := [.int (r 0), .ref (ad 75), .ref (ad 76), .ref (ad 77), .ref (ad 78), .ref (ad 79), .ref (ad 80), .ref (ad 81), .ref (ad 82), .ref (ad 83), .ref (ad 84), .ref (ad 85), .int (r 12), .int (r 13), .int (r 14), .int (r 15), .int (r 16), .int (r 17), .ref (ad 86), .ref (ad 87), .int (r 20), .int (r 21), .ref (ad 88), .int (r 23), .ref (ad 89), .int (r 25), .int (r 26), .ref (ad 90), .int (r 28), .int (r 29), .int (r 30), .int (r 31), .int (r 32), .int (r 33), .ref (ad 91), .ref (ad 92), .ref (ad 93)]
def ge (g : gG) (ad : Nat → Nat) (np : Nat) (σ : gA) (τ : gL) (k : Nat) : va_E := match gk k with
  | 0 => .inr (0, gf0 ad (σ k))
  | 1 => .inr (1, gf1 ad (σ k))
  | 2 => .inr (2, gf2 ad k (σ k))
  | 3 => .inr (3, gf3 ad k (σ k))
  | 4 => .inr (4, gf4 g ad k (σ k))
  | 5 => .inr (5, gf5 ad (σ k))
  | 6 => .inr (6, gf6 ad)
  | 7 => .inr (7, gf7 ad (σ k))
  | 8 => .inl (g.2.1 0, gn k, .inl (σ k))
  | 9 => .inl (g.2.1 1, gn k, .inl (σ k))
  | 10 => .inl (g.2.1 2, gn k, .inr (.inl (τ k)))
  | 11 => .inl (g.2.1 3, 32, .inr (.inr (.inr (.inr (fun p => if p < np then some (ad (gp p)) else none)))))
  | 12 => .inl (g.2.1 4, 6, .inr (.inr (.inr (.inr (fun h => some (ad (4 + 3 * h)))))))
  | _ => .inl (g.2.1 5, 32, .inr (.inr (.inr (.inr (fun d => some (ad (38 + d)))))))
theorem ge_0 {g : gG} {ad : Nat → Nat} {np k : Nat} (h : gk k = 0) (σ : gA) (τ : gL) : ge g ad np σ τ k = .inr (0, gf0 ad (σ k)) := by unfold ge; simp only [h]
theorem ge_1 {g : gG} {ad : Nat → Nat} {np k : Nat} (h : gk k = 1) (σ : gA) (τ : gL) : ge g ad np σ τ k = .inr (1, gf1 ad (σ k)) := by unfold ge; simp only [h]
theorem ge_2 {g : gG} {ad : Nat → Nat} {np k : Nat} (h : gk k = 2) (σ : gA) (τ : gL) : ge g ad np σ τ k = .inr (2, gf2 ad k (σ k)) := by unfold ge; simp only [h]
theorem ge_3 {g : gG} {ad : Nat → Nat} {np k : Nat} (h : gk k = 3) (σ : gA) (τ : gL) : ge g ad np σ τ k = .inr (3, gf3 ad k (σ k)) := by unfold ge; simp only [h]
theorem ge_4 {g : gG} {ad : Nat → Nat} {np k : Nat} (h : gk k = 4) (σ : gA) (τ : gL) : ge g ad np σ τ k = .inr (4, gf4 g ad k (σ k)) := by unfold ge; simp only [h]
theorem ge_5 {g : gG} {ad : Nat → Nat} {np k : Nat} (h : gk k = 5) (σ : gA) (τ : gL) : ge g ad np σ τ k = .inr (5, gf5 ad (σ k)) := by unfold ge; simp only [h]
theorem ge_6 {g : gG} {ad : Nat → Nat} {np k : Nat} (h : gk k = 6) (σ : gA) (τ : gL) : ge g ad np σ τ k = .inr (6, gf6 ad) := by unfold ge; simp only [h]
theorem ge_7 {g : gG} {ad : Nat → Nat} {np k : Nat} (h : gk k = 7) (σ : gA) (τ : gL) : ge g ad np σ τ k = .inr (7, gf7 ad (σ k)) := by unfold ge; simp only [h]
theorem ge_8 {g : gG} {ad : Nat → Nat} {np k : Nat} (h : gk k = 8) (σ : gA) (τ : gL) : ge g ad np σ τ k = .inl (g.2.1 0, gn k, .inl (σ k)) := by unfold ge; simp only [h]
theorem ge_9 {g : gG} {ad : Nat → Nat} {np k : Nat} (h : gk k = 9) (σ : gA) (τ : gL) : ge g ad np σ τ k = .inl (g.2.1 1, gn k, .inl (σ k)) := by unfold ge; simp only [h]
theorem ge_10 {g : gG} {ad : Nat → Nat} {np k : Nat} (h : gk k = 10) (σ : gA) (τ : gL) : ge g ad np σ τ k = .inl (g.2.1 2, gn k, .inr (.inl (τ k))) := by unfold ge; simp only [h]
theorem ge_11 {g : gG} {ad : Nat → Nat} {np : Nat} (σ : gA) (τ : gL) : ge g ad np σ τ 2 = .inl (g.2.1 3, 32, .inr (.inr (.inr (.inr (fun p => if p < np then some (ad (gp p)) else none))))) := rfl
theorem ge_12 {g : gG} {ad : Nat → Nat} {np : Nat} (σ : gA) (τ : gL) : ge g ad np σ τ 3 = .inl (g.2.1 4, 6, .inr (.inr (.inr (.inr (fun h => some (ad (4 + 3 * h))))))) := rfl
theorem ge_13 {g : gG} {ad : Nat → Nat} {np : Nat} (σ : gA) (τ : gL) : ge g ad np σ τ 37 = .inl (g.2.1 5, 32, .inr (.inr (.inr (.inr (fun d => some (ad (38 + d))))))) := rfl
theorem ge_congr {g : gG} {ad : Nat → Nat} {np k : Nat} {σ σ' : gA} {τ τ' : gL} (h : σ' k = σ k) (h' : τ' k = τ k) : ge g ad np σ' τ' k = ge g ad np σ τ k := by
  unfold ge
  rw [h, h']
def gw (g : gG) (ad : Nat → Nat) (np : Nat) (σ : gA) (τ : gL) : va_W := (List.range (94 + 5 * np)).map (fun k => (ad k, ge g ad np σ τ k))
theorem gw_at {g : gG} {ad : Nat → Nat} {np k : Nat} {σ : gA} {τ : gL} (hk : k < 94 + 5 * np) : (gw g ad np σ τ)[k]? = some (ad k, ge g ad np σ τ k) := by
  unfold gw
  rw [List.getElem?_map, List.getElem?_range hk]
  rfl
theorem gw_set {g : gG} {ad : Nat → Nat} {np k : Nat} {σ σ' : gA} {τ τ' : gL} {e : va_E} (he : ge g ad np σ' τ' k = e) (ho : ∀ k', k' ≠ k → ge g ad np σ' τ' k' = ge g ad np σ τ k') : (gw g ad np σ τ).set k (ad k, e) = gw g ad np σ' τ' := by
  subst he
  apply List.ext_getElem?
  intro i
  by_cases hi : i < 94 + 5 * np
  · rw [gw_at hi]
    by_cases hik : i = k
    · subst hik
      rw [List.getElem?_set_self (by unfold gw; simpa using hi)]
    · rw [List.getElem?_set_ne (Ne.symm hik), gw_at hi, ho i hik]
  · rw [List.getElem?_eq_none (by unfold gw; simp; omega), List.getElem?_eq_none (by unfold gw; simp; omega)]
def gF : List (Nat × Nat × Nat × Nat × Nat) := [(0, 3, 0, 0, 13), (1, 3, 0, 0, 0), (22, 1, 0, 0, 12), (24, 6, 0, 0, 14), (24, 7, 0, 0, 15), (24, 8, 0, 0, 16), (24, 9, 0, 0, 17), (24, 10, 0, 0, 20), (24, 11, 0, 0, 26), (24, 12, 0, 0, 28), (24, 13, 0, 0, 29), (24, 14, 0, 0, 30), (24, 15, 0, 0, 31), (24, 16, 0, 0, 32), (25, 1, 0, 0, 21), (27, 1, 1, 2, 0), (29, 1, 0, 0, 23), (31, 1, 0, 0, 25), (35, 1, 1, 2, 1), (74, 0, 2, 0, 0), (74, 12, 2, 0, 12), (74, 13, 2, 0, 13), (74, 14, 2, 0, 14), (74, 15, 2, 0, 15), (74, 16, 2, 0, 16), (74, 17, 2, 0, 17), (74, 20, 2, 0, 20), (74, 21, 2, 0, 21), (74, 23, 2, 0, 23), (74, 25, 2, 0, 25), (74, 26, 2, 0, 26), (74, 28, 2, 0, 28), (74, 29, 2, 0, 29), (74, 30, 2, 0, 30), (74, 31, 2, 0, 31), (74, 32, 2, 0, 32), (74, 33, 2, 0, 33)]
def gT : List (Nat × Nat × Nat × Nat × Nat × Nat × Nat × Nat) := [(0, 1, 94, 5, 1, 0, 0, 1), (0, 2, 94, 5, 1, 1, 0, 1), (0, 4, 96, 5, 8, 0, 0, 8), (0, 5, 95, 5, 1, 1, 0, 1), (0, 6, 98, 5, 5, 0, 0, 5), (0, 7, 97, 5, 1, 1, 0, 1), (0, 8, 5, 3, 4, 0, 24, 0), (0, 9, 6, 3, 4, 0, 24, 0), (0, 10, 4, 3, 1, 2, 6, 0), (0, 11, 23, 0, 0, 0, 6, 0), (0, 12, 26, 0, 0, 0, 32, 0), (0, 13, 28, 0, 0, 0, 32, 0), (0, 14, 30, 0, 0, 0, 32, 0), (0, 15, 32, 0, 0, 0, 32, 0), (0, 16, 33, 0, 0, 0, 6, 0), (1, 0, 94, 5, 1, 4, 0, 1), (1, 1, 94, 5, 1, 5, 0, 1), (1, 3, 36, 0, 0, 0, 32, 0), (1, 4, 38, 1, 5, 0, 160, 0), (1, 5, 70, 0, 0, 0, 32, 0), (2, 1, 75, 0, 0, 0, 32, 0), (2, 2, 76, 0, 0, 0, 32, 0), (2, 3, 77, 0, 0, 0, 32, 0), (2, 4, 78, 0, 0, 0, 256, 0), (2, 5, 79, 0, 0, 0, 32, 0), (2, 6, 80, 0, 0, 0, 160, 0), (2, 7, 81, 0, 0, 0, 32, 0), (2, 8, 82, 0, 0, 0, 24, 0), (2, 9, 83, 0, 0, 0, 24, 0), (2, 10, 84, 0, 0, 0, 6, 0), (2, 11, 85, 0, 0, 0, 6, 0), (2, 12, 86, 0, 0, 0, 32, 0), (2, 13, 87, 0, 0, 0, 32, 0), (2, 14, 88, 0, 0, 0, 32, 0), (2, 15, 89, 0, 0, 0, 32, 0), (2, 16, 90, 0, 0, 0, 6, 0), (3, 0, 91, 0, 0, 0, 160, 0)]
def gtf (q : Nat × Nat × Nat) : Option (Nat × Nat × Nat × Nat × Nat × Nat × Nat × Nat) := gT.find? (fun e => e.1 == q.1 && e.2.1 == q.2.1)
def gff (q : Nat × Nat × Nat) : Option (Nat × Nat × Nat × Nat × Nat) := gF.find? (fun e => e.2.2 == q)
/-- the cell and place of an abstract place -/
def gi (q : Nat × Nat × Nat) : Nat × Nat := match gtf q with
  | some (_, _, k0, s, d, j0, _, _) => (k0 + s * (q.2.2 / d), j0 + q.2.2 % d)
  | none => match gff q with
    | some (k, j, _) => (k, j)
    | none => (0, 0)
/-- the abstract places that there are -/
def gv (np : Nat) (q : Nat × Nat × Nat) : Prop := match gtf q with
  | some (_, _, _, _, _, _, b, bp) => q.2.2 < b + bp * np
  | none => (gff q).isSome = true
/-- back: the abstract place of a cell's place -/
def glf (k j : Nat) : Nat × Nat × Nat := match gF.find? (fun e => e.1 == k && e.2.1 == j) with
  | some e => e.2.2
  | none => match gT.find? (fun e => e.2.2.1 == k && e.2.2.2.1 == 0) with
    | some e => (e.1, e.2.1, j)
    | none => if k < 22 then (if (k - 4) % 3 = 0 then (0, 10, (k - 4) / 3) else if (k - 4) % 3 = 1 then (0, 8, 4 * ((k - 4) / 3) + j) else (0, 9, 4 * ((k - 4) / 3) + j)) else (1, 4, 5 * (k - 38) + j)
def glp (p r j : Nat) : Nat × Nat × Nat := if r = 0 then (if j = 0 then (0, 1, p) else if j = 1 then (0, 2, p) else if j = 4 then (1, 0, p) else (1, 1, p)) else if r = 1 then (0, 5, p) else if r = 2 then (0, 4, 8 * p + j) else if r = 3 then (0, 7, p) else (0, 6, 5 * p + j)
def gl (k j : Nat) : Nat × Nat × Nat := if k < 94 then glf k j else glp ((k - 94) / 5) ((k - 94) % 5) j
theorem gl_pg {p r j : Nat} (hr : r < 5) : gl (94 + 5 * p + r) j = glp p r j := by
  unfold gl
  rw [if_neg (by omega), show (94 + 5 * p + r - 94) / 5 = p by omega, show (94 + 5 * p + r - 94) % 5 = r by omega]
theorem gi_0_1 (p : Nat) : gi (0, 1, p) = (gp p, 0) := by
  show (94 + 5 * (p / 1), 0 + p % 1) = _
  unfold gp
  rw [Nat.div_one, Nat.mod_one]
theorem gi_gl_0_1 (p : Nat) : gl (gi (0, 1, p)).1 (gi (0, 1, p)).2 = (0, 1, p) := by
  rw [gi_0_1]
  exact gl_pg (p := p) (r := 0) (j := 0) (by omega)
theorem gi_0_2 (p : Nat) : gi (0, 2, p) = (gp p, 1) := by
  show (94 + 5 * (p / 1), 1 + p % 1) = _
  unfold gp
  rw [Nat.div_one, Nat.mod_one]
theorem gi_gl_0_2 (p : Nat) : gl (gi (0, 2, p)).1 (gi (0, 2, p)).2 = (0, 2, p) := by
  rw [gi_0_2]
  exact gl_pg (p := p) (r := 0) (j := 1) (by omega)
theorem gi_0_4 (p : Nat) {i : Nat} (hi : i < 8) : gi (0, 4, 8 * p + i) = (gp p + 2, i) := by
  show (96 + 5 * ((8 * p + i) / 8), 0 + (8 * p + i) % 8) = _
  unfold gp
  exact Prod.ext (show 96 + 5 * ((8 * p + i) / 8) = 94 + 5 * p + 2 by omega) (show 0 + (8 * p + i) % 8 = i by omega)
theorem gi_gl_0_4 (x : Nat) : gl (gi (0, 4, x)).1 (gi (0, 4, x)).2 = (0, 4, x) := by
  have h := gi_0_4 (x / 8) (i := x % 8) (by omega)
  rw [show 8 * (x / 8) + x % 8 = x by omega] at h
  rw [h]
  refine (gl_pg (p := x / 8) (r := 2) (j := x % 8) (by omega)).trans ?_
  show (0, 4, 8 * (x / 8) + x % 8) = _
  rw [show 8 * (x / 8) + x % 8 = x by omega]
theorem gi_0_5 (p : Nat) : gi (0, 5, p) = (gp p + 1, 1) := by
  show (95 + 5 * (p / 1), 1 + p % 1) = _
  unfold gp
  rw [Nat.div_one, Nat.mod_one]
  exact Prod.ext (show 95 + 5 * p = 94 + 5 * p + 1 by omega) rfl
theorem gi_gl_0_5 (p : Nat) : gl (gi (0, 5, p)).1 (gi (0, 5, p)).2 = (0, 5, p) := by
  rw [gi_0_5]
  exact gl_pg (p := p) (r := 1) (j := 1) (by omega)
theorem gi_0_6 (p : Nat) {i : Nat} (hi : i < 5) : gi (0, 6, 5 * p + i) = (gp p + 4, i) := by
  show (98 + 5 * ((5 * p + i) / 5), 0 + (5 * p + i) % 5) = _
  unfold gp
  exact Prod.ext (show 98 + 5 * ((5 * p + i) / 5) = 94 + 5 * p + 4 by omega) (show 0 + (5 * p + i) % 5 = i by omega)
theorem gi_gl_0_6 (x : Nat) : gl (gi (0, 6, x)).1 (gi (0, 6, x)).2 = (0, 6, x) := by
  have h := gi_0_6 (x / 5) (i := x % 5) (by omega)
  rw [show 5 * (x / 5) + x % 5 = x by omega] at h
  rw [h]
  refine (gl_pg (p := x / 5) (r := 4) (j := x % 5) (by omega)).trans ?_
  show (0, 6, 5 * (x / 5) + x % 5) = _
  rw [show 5 * (x / 5) + x % 5 = x by omega]
theorem gi_0_7 (p : Nat) : gi (0, 7, p) = (gp p + 3, 1) := by
  show (97 + 5 * (p / 1), 1 + p % 1) = _
  unfold gp
  rw [Nat.div_one, Nat.mod_one]
  exact Prod.ext (show 97 + 5 * p = 94 + 5 * p + 3 by omega) rfl
theorem gi_gl_0_7 (p : Nat) : gl (gi (0, 7, p)).1 (gi (0, 7, p)).2 = (0, 7, p) := by
  rw [gi_0_7]
  exact gl_pg (p := p) (r := 3) (j := 1) (by omega)
theorem gi_1_0 (p : Nat) : gi (1, 0, p) = (gp p, 4) := by
  show (94 + 5 * (p / 1), 4 + p % 1) = _
  unfold gp
  rw [Nat.div_one, Nat.mod_one]
theorem gi_gl_1_0 (p : Nat) : gl (gi (1, 0, p)).1 (gi (1, 0, p)).2 = (1, 0, p) := by
  rw [gi_1_0]
  exact gl_pg (p := p) (r := 0) (j := 4) (by omega)
theorem gi_1_1 (p : Nat) : gi (1, 1, p) = (gp p, 5) := by
  show (94 + 5 * (p / 1), 5 + p % 1) = _
  unfold gp
  rw [Nat.div_one, Nat.mod_one]
theorem gi_gl_1_1 (p : Nat) : gl (gi (1, 1, p)).1 (gi (1, 1, p)).2 = (1, 1, p) := by
  rw [gi_1_1]
  exact gl_pg (p := p) (r := 0) (j := 5) (by omega)
theorem gi_gl_0_8 {x : Nat} (hx : x < 24) : gl (gi (0, 8, x)).1 (gi (0, 8, x)).2 = (0, 8, x) := (show ∀ x : Fin 24, gl (gi (0, 8, x.val)).1 (gi (0, 8, x.val)).2 = (0, 8, x.val) by decide +kernel) ⟨x, hx⟩
theorem gi_gl_0_9 {x : Nat} (hx : x < 24) : gl (gi (0, 9, x)).1 (gi (0, 9, x)).2 = (0, 9, x) := (show ∀ x : Fin 24, gl (gi (0, 9, x.val)).1 (gi (0, 9, x.val)).2 = (0, 9, x.val) by decide +kernel) ⟨x, hx⟩
theorem gi_gl_0_10 {x : Nat} (hx : x < 6) : gl (gi (0, 10, x)).1 (gi (0, 10, x)).2 = (0, 10, x) := (show ∀ x : Fin 6, gl (gi (0, 10, x.val)).1 (gi (0, 10, x.val)).2 = (0, 10, x.val) by decide +kernel) ⟨x, hx⟩
theorem gi_gl_1_4 {x : Nat} (hx : x < 160) : gl (gi (1, 4, x)).1 (gi (1, 4, x)).2 = (1, 4, x) := (show ∀ x : Fin 160, gl (gi (1, 4, x.val)).1 (gi (1, 4, x.val)).2 = (1, 4, x.val) by decide +kernel) ⟨x, hx⟩
theorem gi_0_11 (x : Nat) : gi (0, 11, x) = (23, x) := by
  show (23 + 0 * (x / 0), 0 + x % 0) = _
  rw [Nat.zero_mul, Nat.mod_zero, Nat.zero_add]
theorem gi_0_12 (x : Nat) : gi (0, 12, x) = (26, x) := by
  show (26 + 0 * (x / 0), 0 + x % 0) = _
  rw [Nat.zero_mul, Nat.mod_zero, Nat.zero_add]
theorem gi_0_13 (x : Nat) : gi (0, 13, x) = (28, x) := by
  show (28 + 0 * (x / 0), 0 + x % 0) = _
  rw [Nat.zero_mul, Nat.mod_zero, Nat.zero_add]
theorem gi_0_14 (x : Nat) : gi (0, 14, x) = (30, x) := by
  show (30 + 0 * (x / 0), 0 + x % 0) = _
  rw [Nat.zero_mul, Nat.mod_zero, Nat.zero_add]
theorem gi_0_15 (x : Nat) : gi (0, 15, x) = (32, x) := by
  show (32 + 0 * (x / 0), 0 + x % 0) = _
  rw [Nat.zero_mul, Nat.mod_zero, Nat.zero_add]
theorem gi_0_16 (x : Nat) : gi (0, 16, x) = (33, x) := by
  show (33 + 0 * (x / 0), 0 + x % 0) = _
  rw [Nat.zero_mul, Nat.mod_zero, Nat.zero_add]
theorem gi_1_3 (x : Nat) : gi (1, 3, x) = (36, x) := by
  show (36 + 0 * (x / 0), 0 + x % 0) = _
  rw [Nat.zero_mul, Nat.mod_zero, Nat.zero_add]
theorem gi_1_5 (x : Nat) : gi (1, 5, x) = (70, x) := by
  show (70 + 0 * (x / 0), 0 + x % 0) = _
  rw [Nat.zero_mul, Nat.mod_zero, Nat.zero_add]
theorem gi_2_1 (x : Nat) : gi (2, 1, x) = (75, x) := by
  show (75 + 0 * (x / 0), 0 + x % 0) = _
  rw [Nat.zero_mul, Nat.mod_zero, Nat.zero_add]
theorem gi_2_2 (x : Nat) : gi (2, 2, x) = (76, x) := by
  show (76 + 0 * (x / 0), 0 + x % 0) = _
  rw [Nat.zero_mul, Nat.mod_zero, Nat.zero_add]
theorem gi_2_3 (x : Nat) : gi (2, 3, x) = (77, x) := by
  show (77 + 0 * (x / 0), 0 + x % 0) = _
  rw [Nat.zero_mul, Nat.mod_zero, Nat.zero_add]
theorem gi_2_4 (x : Nat) : gi (2, 4, x) = (78, x) := by
  show (78 + 0 * (x / 0), 0 + x % 0) = _
  rw [Nat.zero_mul, Nat.mod_zero, Nat.zero_add]
theorem gi_2_5 (x : Nat) : gi (2, 5, x) = (79, x) := by
  show (79 + 0 * (x / 0), 0 + x % 0) = _
  rw [Nat.zero_mul, Nat.mod_zero, Nat.zero_add]
theorem gi_2_6 (x : Nat) : gi (2, 6, x) = (80, x) := by
  show (80 + 0 * (x / 0), 0 + x % 0) = _
  rw [Nat.zero_mul, Nat.mod_zero, Nat.zero_add]
theorem gi_2_7 (x : Nat) : gi (2, 7, x) = (81, x) := by
  show (81 + 0 * (x / 0), 0 + x % 0) = _
  rw [Nat.zero_mul, Nat.mod_zero, Nat.zero_add]
theorem gi_2_8 (x : Nat) : gi (2, 8, x) = (82, x) := by
  show (82 + 0 * (x / 0), 0 + x % 0) = _
  rw [Nat.zero_mul, Nat.mod_zero, Nat.zero_add]
theorem gi_2_9 (x : Nat) : gi (2, 9, x) = (83, x) := by
  show (83 + 0 * (x / 0), 0 + x % 0) = _
  rw [Nat.zero_mul, Nat.mod_zero, Nat.zero_add]
theorem gi_2_10 (x : Nat) : gi (2, 10, x) = (84, x) := by
  show (84 + 0 * (x / 0), 0 + x % 0) = _
  rw [Nat.zero_mul, Nat.mod_zero, Nat.zero_add]
theorem gi_2_11 (x : Nat) : gi (2, 11, x) = (85, x) := by
  show (85 + 0 * (x / 0), 0 + x % 0) = _
  rw [Nat.zero_mul, Nat.mod_zero, Nat.zero_add]
theorem gi_2_12 (x : Nat) : gi (2, 12, x) = (86, x) := by
  show (86 + 0 * (x / 0), 0 + x % 0) = _
  rw [Nat.zero_mul, Nat.mod_zero, Nat.zero_add]
theorem gi_2_13 (x : Nat) : gi (2, 13, x) = (87, x) := by
  show (87 + 0 * (x / 0), 0 + x % 0) = _
  rw [Nat.zero_mul, Nat.mod_zero, Nat.zero_add]
theorem gi_2_14 (x : Nat) : gi (2, 14, x) = (88, x) := by
  show (88 + 0 * (x / 0), 0 + x % 0) = _
  rw [Nat.zero_mul, Nat.mod_zero, Nat.zero_add]
theorem gi_2_15 (x : Nat) : gi (2, 15, x) = (89, x) := by
  show (89 + 0 * (x / 0), 0 + x % 0) = _
  rw [Nat.zero_mul, Nat.mod_zero, Nat.zero_add]
theorem gi_2_16 (x : Nat) : gi (2, 16, x) = (90, x) := by
  show (90 + 0 * (x / 0), 0 + x % 0) = _
  rw [Nat.zero_mul, Nat.mod_zero, Nat.zero_add]
theorem gi_3_0 (x : Nat) : gi (3, 0, x) = (91, x) := by
  show (91 + 0 * (x / 0), 0 + x % 0) = _
  rw [Nat.zero_mul, Nat.mod_zero, Nat.zero_add]
theorem gi_gl_F : ∀ e ∈ gF, gl (gi e.2.2).1 (gi e.2.2).2 = e.2.2 := by decide +kernel
theorem gi_gl_0_11 (x : Nat) : gl (gi (0, 11, x)).1 (gi (0, 11, x)).2 = (0, 11, x) := by
  rw [gi_0_11]
  rfl
theorem gi_gl_0_12 (x : Nat) : gl (gi (0, 12, x)).1 (gi (0, 12, x)).2 = (0, 12, x) := by
  rw [gi_0_12]
  rfl
theorem gi_gl_0_13 (x : Nat) : gl (gi (0, 13, x)).1 (gi (0, 13, x)).2 = (0, 13, x) := by
  rw [gi_0_13]
  rfl
theorem gi_gl_0_14 (x : Nat) : gl (gi (0, 14, x)).1 (gi (0, 14, x)).2 = (0, 14, x) := by
  rw [gi_0_14]
  rfl
theorem gi_gl_0_15 (x : Nat) : gl (gi (0, 15, x)).1 (gi (0, 15, x)).2 = (0, 15, x) := by
  rw [gi_0_15]
  rfl
theorem gi_gl_0_16 (x : Nat) : gl (gi (0, 16, x)).1 (gi (0, 16, x)).2 = (0, 16, x) := by
  rw [gi_0_16]
  rfl
theorem gi_gl_1_3 (x : Nat) : gl (gi (1, 3, x)).1 (gi (1, 3, x)).2 = (1, 3, x) := by
  rw [gi_1_3]
  rfl
theorem gi_gl_1_5 (x : Nat) : gl (gi (1, 5, x)).1 (gi (1, 5, x)).2 = (1, 5, x) := by
  rw [gi_1_5]
  rfl
theorem gi_gl_2_1 (x : Nat) : gl (gi (2, 1, x)).1 (gi (2, 1, x)).2 = (2, 1, x) := by
  rw [gi_2_1]
  rfl
theorem gi_gl_2_2 (x : Nat) : gl (gi (2, 2, x)).1 (gi (2, 2, x)).2 = (2, 2, x) := by
  rw [gi_2_2]
  rfl
theorem gi_gl_2_3 (x : Nat) : gl (gi (2, 3, x)).1 (gi (2, 3, x)).2 = (2, 3, x) := by
  rw [gi_2_3]
  rfl
theorem gi_gl_2_4 (x : Nat) : gl (gi (2, 4, x)).1 (gi (2, 4, x)).2 = (2, 4, x) := by
  rw [gi_2_4]
  rfl
theorem gi_gl_2_5 (x : Nat) : gl (gi (2, 5, x)).1 (gi (2, 5, x)).2 = (2, 5, x) := by
  rw [gi_2_5]
  rfl
theorem gi_gl_2_6 (x : Nat) : gl (gi (2, 6, x)).1 (gi (2, 6, x)).2 = (2, 6, x) := by
  rw [gi_2_6]
  rfl
theorem gi_gl_2_7 (x : Nat) : gl (gi (2, 7, x)).1 (gi (2, 7, x)).2 = (2, 7, x) := by
  rw [gi_2_7]
  rfl
theorem gi_gl_2_8 (x : Nat) : gl (gi (2, 8, x)).1 (gi (2, 8, x)).2 = (2, 8, x) := by
  rw [gi_2_8]
  rfl
theorem gi_gl_2_9 (x : Nat) : gl (gi (2, 9, x)).1 (gi (2, 9, x)).2 = (2, 9, x) := by
  rw [gi_2_9]
  rfl
theorem gi_gl_2_10 (x : Nat) : gl (gi (2, 10, x)).1 (gi (2, 10, x)).2 = (2, 10, x) := by
  rw [gi_2_10]
  rfl
theorem gi_gl_2_11 (x : Nat) : gl (gi (2, 11, x)).1 (gi (2, 11, x)).2 = (2, 11, x) := by
  rw [gi_2_11]
  rfl
theorem gi_gl_2_12 (x : Nat) : gl (gi (2, 12, x)).1 (gi (2, 12, x)).2 = (2, 12, x) := by
  rw [gi_2_12]
  rfl
theorem gi_gl_2_13 (x : Nat) : gl (gi (2, 13, x)).1 (gi (2, 13, x)).2 = (2, 13, x) := by
  rw [gi_2_13]
  rfl
theorem gi_gl_2_14 (x : Nat) : gl (gi (2, 14, x)).1 (gi (2, 14, x)).2 = (2, 14, x) := by
  rw [gi_2_14]
  rfl
theorem gi_gl_2_15 (x : Nat) : gl (gi (2, 15, x)).1 (gi (2, 15, x)).2 = (2, 15, x) := by
  rw [gi_2_15]
  rfl
theorem gi_gl_2_16 (x : Nat) : gl (gi (2, 16, x)).1 (gi (2, 16, x)).2 = (2, 16, x) := by
  rw [gi_2_16]
  rfl
theorem gi_gl_3_0 (x : Nat) : gl (gi (3, 0, x)).1 (gi (3, 0, x)).2 = (3, 0, x) := by
  rw [gi_3_0]
  rfl
theorem gl_gi {np : Nat} {q : Nat × Nat × Nat} (h : gv np q) : gl (gi q).1 (gi q).2 = q := by
  obtain ⟨sp, row, x⟩ := q
  unfold gv at h
  cases ht : gtf (sp, row, x) with
  | some e =>
    rw [ht] at h
    have hm := List.mem_of_find?_eq_some ht
    have hp := List.find?_some ht
    simp only [Bool.and_eq_true, beq_iff_eq] at hp
    obtain ⟨h1, h2⟩ := hp
    subst h1
    subst h2
    simp only [gT, List.mem_cons, List.not_mem_nil, or_false] at hm
    rcases hm with rfl | rfl | rfl | rfl | rfl | rfl | rfl | rfl | rfl | rfl | rfl | rfl | rfl | rfl | rfl | rfl | rfl | rfl | rfl | rfl | rfl | rfl | rfl | rfl | rfl | rfl | rfl | rfl | rfl | rfl | rfl | rfl | rfl | rfl | rfl | rfl | rfl
    · exact gi_gl_0_1 x
    · exact gi_gl_0_2 x
    · exact gi_gl_0_4 x
    · exact gi_gl_0_5 x
    · exact gi_gl_0_6 x
    · exact gi_gl_0_7 x
    · exact gi_gl_0_8 (by simpa using h)
    · exact gi_gl_0_9 (by simpa using h)
    · exact gi_gl_0_10 (by simpa using h)
    · exact gi_gl_0_11 x
    · exact gi_gl_0_12 x
    · exact gi_gl_0_13 x
    · exact gi_gl_0_14 x
    · exact gi_gl_0_15 x
    · exact gi_gl_0_16 x
    · exact gi_gl_1_0 x
    · exact gi_gl_1_1 x
    · exact gi_gl_1_3 x
    · exact gi_gl_1_4 (by simpa using h)
    · exact gi_gl_1_5 x
    · exact gi_gl_2_1 x
    · exact gi_gl_2_2 x
    · exact gi_gl_2_3 x
    · exact gi_gl_2_4 x
    · exact gi_gl_2_5 x
    · exact gi_gl_2_6 x
    · exact gi_gl_2_7 x
    · exact gi_gl_2_8 x
    · exact gi_gl_2_9 x
    · exact gi_gl_2_10 x
    · exact gi_gl_2_11 x
    · exact gi_gl_2_12 x
    · exact gi_gl_2_13 x
    · exact gi_gl_2_14 x
    · exact gi_gl_2_15 x
    · exact gi_gl_2_16 x
    · exact gi_gl_3_0 x
  | none =>
    rw [ht] at h
    cases hf : gff (sp, row, x) with
    | none => rw [hf] at h; cases h
    | some e =>
      have hm := List.mem_of_find?_eq_some hf
      have hp := List.find?_some hf
      simp only [beq_iff_eq] at hp
      have h3 := gi_gl_F e hm
      rw [hp] at h3
      exact h3
theorem gi_inj {np : Nat} {q q' : Nat × Nat × Nat} (h : gv np q) (h' : gv np q') (he : gi q = gi q') : q = q' := by
  rw [← gl_gi h, ← gl_gi h', he]
theorem gv_sp {np : Nat} {q : Nat × Nat × Nat} (h : gv np q) : q.1 < 4 := by
  obtain ⟨sp, row, x⟩ := q
  unfold gv at h
  cases ht : gtf (sp, row, x) with
  | some e =>
    have hm := List.mem_of_find?_eq_some ht
    have hp := List.find?_some ht
    simp only [Bool.and_eq_true, beq_iff_eq] at hp
    have h4 : ∀ e ∈ gT, e.1 < 4 := by decide
    show sp < 4
    rw [← hp.1]
    exact h4 e hm
  | none =>
    rw [ht] at h
    cases hf : gff (sp, row, x) with
    | none => rw [hf] at h; cases h
    | some e =>
      have hm := List.mem_of_find?_eq_some hf
      have hp := List.find?_some hf
      simp only [beq_iff_eq] at hp
      have h4 : ∀ e ∈ gF, e.2.2.1 < 4 := by decide
      have h5 := h4 e hm
      rw [hp] at h5
      exact h5
def gr (u v : gS) (q : Nat × Nat × Nat) : Int32 := match q.1 with
  | 0 => u.1 q.2.1 q.2.2
  | 1 => u.2.1 q.2.1 q.2.2
  | 2 => v.1 q.2.1 q.2.2
  | _ => v.2.1 q.2.1 q.2.2
def gx (u v : gS) (q : Nat × Nat × Nat) (x : Int32) : gS × gS := match q.1 with
  | 0 => ((gu u.1 q.2.1 q.2.2 x, u.2.1, u.2.2), v)
  | 1 => ((u.1, gu u.2.1 q.2.1 q.2.2 x, u.2.2), v)
  | 2 => (u, (gu v.1 q.2.1 q.2.2 x, v.2.1, v.2.2))
  | _ => (u, (v.1, gu v.2.1 q.2.1 q.2.2 x, v.2.2))
theorem gr_gx_self (u v : gS) (q : Nat × Nat × Nat) (x : Int32) : gr (gx u v q x).1 (gx u v q x).2 q = x := by
  obtain ⟨sp, row, i⟩ := q
  match sp with
  | 0 => exact gu_hit _ _ _ _
  | 1 => exact gu_hit _ _ _ _
  | 2 => exact gu_hit _ _ _ _
  | _ + 3 => exact gu_hit _ _ _ _
theorem gr_gx_ne {u v : gS} {q q' : Nat × Nat × Nat} {x : Int32} (h : q' ≠ q) (hs : q.1 < 4) (hs' : q'.1 < 4) : gr (gx u v q x).1 (gx u v q x).2 q' = gr u v q' := by
  obtain ⟨sp, row, i⟩ := q
  obtain ⟨sp', row', i'⟩ := q'
  have key : sp' = sp → ¬ (row' = row ∧ i' = i) := fun e1 e2 => h (by rw [e1, e2.1, e2.2])
  match sp, sp', hs, hs' with
  | 0, 0, _, _ => exact gu_off (key rfl)
  | 1, 1, _, _ => exact gu_off (key rfl)
  | 2, 2, _, _ => exact gu_off (key rfl)
  | 3, 3, _, _ => exact gu_off (key rfl)
  | 0, 1, _, _ => rfl
  | 0, 2, _, _ => rfl
  | 0, 3, _, _ => rfl
  | 1, 0, _, _ => rfl
  | 1, 2, _, _ => rfl
  | 1, 3, _, _ => rfl
  | 2, 0, _, _ => rfl
  | 2, 1, _, _ => rfl
  | 2, 3, _, _ => rfl
  | 3, 0, _, _ => rfl
  | 3, 1, _, _ => rfl
  | 3, 2, _, _ => rfl
theorem gx_l (u v : gS) (q : Nat × Nat × Nat) (x : Int32) : (gx u v q x).1.2.2 = u.2.2 ∧ (gx u v q x).2.2.2 = v.2.2 := by
  obtain ⟨sp, row, i⟩ := q
  match sp with
  | 0 => exact ⟨rfl, rfl⟩
  | 1 => exact ⟨rfl, rfl⟩
  | 2 => exact ⟨rfl, rfl⟩
  | _ + 3 => exact ⟨rfl, rfl⟩
/-- the world: the whole picture, the class's state u, the reference's state v -/
def gW (g : gG) (A : Nat → Prop) (ad : Nat → Nat) (np : Nat) (u v : gS) (H : Heap) : Prop := ∃ (σ : gA) (τ : gL), va_P g.1 gcl (gw g ad np σ τ) H ∧ va_D A (gw g ad np σ τ) ∧ (∀ q, gv np q → σ (gi q).1 (gi q).2 = gr u v q) ∧ (∀ k, k < 3 → τ (71 + k) = u.2.2 k) ∧ (∀ k, k < 2 → τ (92 + k) = v.2.2 k)
theorem gW_wr {g : gG} {A : Nat → Prop} {ad : Nat → Nat} {np k j : Nat} {u v : gS} {σ : gA} {τ : gL} {x : Int32} {q : Nat × Nat × Nat} {e : va_E} {H1 : Heap} (hq : gv np q) (hg : gi q = (k, j)) (hr : ∀ q, gv np q → σ (gi q).1 (gi q).2 = gr u v q) (hl1 : ∀ k, k < 3 → τ (71 + k) = u.2.2 k) (hl2 : ∀ k, k < 2 → τ (92 + k) = v.2.2 k)
    (he : ge g ad np (gu σ k j x) τ k = e) (hP : va_P g.1 gcl ((gw g ad np σ τ).set k (ad k, e)) H1) (hD : va_D A ((gw g ad np σ τ).set k (ad k, e))) : gW g A ad np (gx u v q x).1 (gx u v q x).2 H1 := by
  have hs := gw_set (g := g) (ad := ad) (np := np) (k := k) (σ := σ) (σ' := gu σ k j x) (τ := τ) (τ' := τ) he (fun k' hk' => ge_congr (gu_ne hk') rfl)
  rw [hs] at hP hD
  refine ⟨_, _, hP, hD, fun q' hq' => ?_, fun k hk => ?_, fun k hk => ?_⟩
  · by_cases e : q' = q
    · subst e
      rw [hg, gr_gx_self]
      exact gu_hit _ _ _ _
    · rw [gr_gx_ne e (gv_sp hq) (gv_sp hq'), ← hr q' hq']
      exact gu_off (fun h => e (gi_inj hq' hq (by rw [hg]; exact Prod.ext h.1 h.2)))
  · rw [(gx_l u v q x).1]; exact hl1 k hk
  · rw [(gx_l u v q x).2]; exact hl2 k hk
theorem gW_wrL {g : gG} {A : Nat → Prop} {ad : Nat → Nat} {np k j : Nat} {u v : gS} {σ : gA} {τ : gL} {x : Int64} {e : va_E} {H1 : Heap} (hk : k < 3) (hr : ∀ q, gv np q → σ (gi q).1 (gi q).2 = gr u v q) (hl1 : ∀ k, k < 3 → τ (71 + k) = u.2.2 k) (hl2 : ∀ k, k < 2 → τ (92 + k) = v.2.2 k)
    (he : ge g ad np σ (guL τ (71 + k) j x) (71 + k) = e) (hP : va_P g.1 gcl ((gw g ad np σ τ).set (71 + k) (ad (71 + k), e)) H1) (hD : va_D A ((gw g ad np σ τ).set (71 + k) (ad (71 + k), e))) : gW g A ad np (u.1, u.2.1, guL u.2.2 k j x) v H1 := by
  have hs := gw_set (g := g) (ad := ad) (np := np) (k := 71 + k) (σ := σ) (σ' := σ) (τ := τ) (τ' := guL τ (71 + k) j x) he (fun k' hk' => ge_congr rfl (guL_ne hk'))
  rw [hs] at hP hD
  refine ⟨_, _, hP, hD, fun q' hq' => ?_, fun k' hk' => ?_, fun k' hk' => ?_⟩
  · rw [hr q' hq']
    obtain ⟨sp, row, i⟩ := q'
    match sp with
    | 0 => rfl
    | 1 => rfl
    | 2 => rfl
    | _ + 3 => rfl
  · by_cases e : k' = k
    · subst e
      rw [guL_self, hl1 k' hk']
      exact (guL_self _ _ _ _).symm
    · rw [guL_ne (show 71 + k' ≠ 71 + k by omega), hl1 k' hk']
      exact (guL_ne e).symm
  · rw [guL_ne (show 92 + k' ≠ 71 + k by omega)]
    exact hl2 k' hk'
theorem gW_wrM {g : gG} {A : Nat → Prop} {ad : Nat → Nat} {np k j : Nat} {u v : gS} {σ : gA} {τ : gL} {x : Int64} {e : va_E} {H1 : Heap} (hk : k < 2) (hr : ∀ q, gv np q → σ (gi q).1 (gi q).2 = gr u v q) (hl1 : ∀ k, k < 3 → τ (71 + k) = u.2.2 k) (hl2 : ∀ k, k < 2 → τ (92 + k) = v.2.2 k)
    (he : ge g ad np σ (guL τ (92 + k) j x) (92 + k) = e) (hP : va_P g.1 gcl ((gw g ad np σ τ).set (92 + k) (ad (92 + k), e)) H1) (hD : va_D A ((gw g ad np σ τ).set (92 + k) (ad (92 + k), e))) : gW g A ad np u (v.1, v.2.1, guL v.2.2 k j x) H1 := by
  have hs := gw_set (g := g) (ad := ad) (np := np) (k := 92 + k) (σ := σ) (σ' := σ) (τ := τ) (τ' := guL τ (92 + k) j x) he (fun k' hk' => ge_congr rfl (guL_ne hk'))
  rw [hs] at hP hD
  refine ⟨_, _, hP, hD, fun q' hq' => ?_, fun k' hk' => ?_, fun k' hk' => ?_⟩
  · rw [hr q' hq']
    obtain ⟨sp, row, i⟩ := q'
    match sp with
    | 0 => rfl
    | 1 => rfl
    | 2 => rfl
    | _ + 3 => rfl
  · rw [guL_ne (show 71 + k' ≠ 92 + k by omega)]
    exact hl1 k' hk'
  · by_cases e : k' = k
    · subst e
      rw [guL_self, hl2 k' hk']
      exact (guL_self _ _ _ _).symm
    · rw [guL_ne (show 92 + k' ≠ 92 + k by omega), hl2 k' hk']
      exact (guL_ne e).symm
theorem gv_0_0_13 (np : Nat) : gv np (0, 0, 13) := show (gff (0, 0, 13)).isSome = true from rfl
theorem gv_0_0_0 (np : Nat) : gv np (0, 0, 0) := show (gff (0, 0, 0)).isSome = true from rfl
theorem gv_0_0_12 (np : Nat) : gv np (0, 0, 12) := show (gff (0, 0, 12)).isSome = true from rfl
theorem gv_0_0_14 (np : Nat) : gv np (0, 0, 14) := show (gff (0, 0, 14)).isSome = true from rfl
theorem gv_0_0_15 (np : Nat) : gv np (0, 0, 15) := show (gff (0, 0, 15)).isSome = true from rfl
theorem gv_0_0_16 (np : Nat) : gv np (0, 0, 16) := show (gff (0, 0, 16)).isSome = true from rfl
theorem gv_0_0_17 (np : Nat) : gv np (0, 0, 17) := show (gff (0, 0, 17)).isSome = true from rfl
theorem gv_0_0_20 (np : Nat) : gv np (0, 0, 20) := show (gff (0, 0, 20)).isSome = true from rfl
theorem gv_0_0_26 (np : Nat) : gv np (0, 0, 26) := show (gff (0, 0, 26)).isSome = true from rfl
theorem gv_0_0_28 (np : Nat) : gv np (0, 0, 28) := show (gff (0, 0, 28)).isSome = true from rfl
theorem gv_0_0_29 (np : Nat) : gv np (0, 0, 29) := show (gff (0, 0, 29)).isSome = true from rfl
theorem gv_0_0_30 (np : Nat) : gv np (0, 0, 30) := show (gff (0, 0, 30)).isSome = true from rfl
theorem gv_0_0_31 (np : Nat) : gv np (0, 0, 31) := show (gff (0, 0, 31)).isSome = true from rfl
theorem gv_0_0_32 (np : Nat) : gv np (0, 0, 32) := show (gff (0, 0, 32)).isSome = true from rfl
theorem gv_0_0_21 (np : Nat) : gv np (0, 0, 21) := show (gff (0, 0, 21)).isSome = true from rfl
theorem gv_1_2_0 (np : Nat) : gv np (1, 2, 0) := show (gff (1, 2, 0)).isSome = true from rfl
theorem gv_0_0_23 (np : Nat) : gv np (0, 0, 23) := show (gff (0, 0, 23)).isSome = true from rfl
theorem gv_0_0_25 (np : Nat) : gv np (0, 0, 25) := show (gff (0, 0, 25)).isSome = true from rfl
theorem gv_1_2_1 (np : Nat) : gv np (1, 2, 1) := show (gff (1, 2, 1)).isSome = true from rfl
theorem gv_2_0_0 (np : Nat) : gv np (2, 0, 0) := show (gff (2, 0, 0)).isSome = true from rfl
theorem gv_2_0_12 (np : Nat) : gv np (2, 0, 12) := show (gff (2, 0, 12)).isSome = true from rfl
theorem gv_2_0_13 (np : Nat) : gv np (2, 0, 13) := show (gff (2, 0, 13)).isSome = true from rfl
theorem gv_2_0_14 (np : Nat) : gv np (2, 0, 14) := show (gff (2, 0, 14)).isSome = true from rfl
theorem gv_2_0_15 (np : Nat) : gv np (2, 0, 15) := show (gff (2, 0, 15)).isSome = true from rfl
theorem gv_2_0_16 (np : Nat) : gv np (2, 0, 16) := show (gff (2, 0, 16)).isSome = true from rfl
theorem gv_2_0_17 (np : Nat) : gv np (2, 0, 17) := show (gff (2, 0, 17)).isSome = true from rfl
theorem gv_2_0_20 (np : Nat) : gv np (2, 0, 20) := show (gff (2, 0, 20)).isSome = true from rfl
theorem gv_2_0_21 (np : Nat) : gv np (2, 0, 21) := show (gff (2, 0, 21)).isSome = true from rfl
theorem gv_2_0_23 (np : Nat) : gv np (2, 0, 23) := show (gff (2, 0, 23)).isSome = true from rfl
theorem gv_2_0_25 (np : Nat) : gv np (2, 0, 25) := show (gff (2, 0, 25)).isSome = true from rfl
theorem gv_2_0_26 (np : Nat) : gv np (2, 0, 26) := show (gff (2, 0, 26)).isSome = true from rfl
theorem gv_2_0_28 (np : Nat) : gv np (2, 0, 28) := show (gff (2, 0, 28)).isSome = true from rfl
theorem gv_2_0_29 (np : Nat) : gv np (2, 0, 29) := show (gff (2, 0, 29)).isSome = true from rfl
theorem gv_2_0_30 (np : Nat) : gv np (2, 0, 30) := show (gff (2, 0, 30)).isSome = true from rfl
theorem gv_2_0_31 (np : Nat) : gv np (2, 0, 31) := show (gff (2, 0, 31)).isSome = true from rfl
theorem gv_2_0_32 (np : Nat) : gv np (2, 0, 32) := show (gff (2, 0, 32)).isSome = true from rfl
theorem gv_2_0_33 (np : Nat) : gv np (2, 0, 33) := show (gff (2, 0, 33)).isSome = true from rfl
theorem gv_0_1 {np p : Nat} (hp : p < np) : gv np (0, 1, p) := show p < 0 + 1 * np by omega
theorem gv_0_2 {np p : Nat} (hp : p < np) : gv np (0, 2, p) := show p < 0 + 1 * np by omega
theorem gv_0_4 {np p i : Nat} (hp : p < np) (hi : i < 8) : gv np (0, 4, 8 * p + i) := show 8 * p + i < 0 + 8 * np by omega
theorem gv_0_5 {np p : Nat} (hp : p < np) : gv np (0, 5, p) := show p < 0 + 1 * np by omega
theorem gv_0_6 {np p i : Nat} (hp : p < np) (hi : i < 5) : gv np (0, 6, 5 * p + i) := show 5 * p + i < 0 + 5 * np by omega
theorem gv_0_7 {np p : Nat} (hp : p < np) : gv np (0, 7, p) := show p < 0 + 1 * np by omega
theorem gv_0_8 {np h i : Nat} (hh : h < 6) (hi : i < 4) : gv np (0, 8, 4 * h + i) := show 4 * h + i < 24 + 0 * np by omega
theorem gi_0_8 (h : Nat) {i : Nat} (hi : i < 4) : gi (0, 8, 4 * h + i) = (4 + 3 * h + 1, i) := by
  show (5 + 3 * ((4 * h + i) / 4), 0 + (4 * h + i) % 4) = _
  exact Prod.ext (show 5 + 3 * ((4 * h + i) / 4) = 4 + 3 * h + 1 by omega) (show 0 + (4 * h + i) % 4 = i by omega)
theorem gv_0_9 {np h i : Nat} (hh : h < 6) (hi : i < 4) : gv np (0, 9, 4 * h + i) := show 4 * h + i < 24 + 0 * np by omega
theorem gi_0_9 (h : Nat) {i : Nat} (hi : i < 4) : gi (0, 9, 4 * h + i) = (4 + 3 * h + 2, i) := by
  show (6 + 3 * ((4 * h + i) / 4), 0 + (4 * h + i) % 4) = _
  exact Prod.ext (show 6 + 3 * ((4 * h + i) / 4) = 4 + 3 * h + 2 by omega) (show 0 + (4 * h + i) % 4 = i by omega)
theorem gv_0_10 {np h : Nat} (hh : h < 6) : gv np (0, 10, h) := show h < 6 + 0 * np by omega
theorem gi_0_10 (h : Nat) : gi (0, 10, h) = (4 + 3 * h, 2) := by
  show (4 + 3 * (h / 1), 2 + h % 1) = _
  rw [Nat.div_one, Nat.mod_one]
theorem gv_0_11 {np x : Nat} (hx : x < 6) : gv np (0, 11, x) := show x < 6 + 0 * np by omega
theorem gv_0_12 {np x : Nat} (hx : x < 32) : gv np (0, 12, x) := show x < 32 + 0 * np by omega
theorem gv_0_13 {np x : Nat} (hx : x < 32) : gv np (0, 13, x) := show x < 32 + 0 * np by omega
theorem gv_0_14 {np x : Nat} (hx : x < 32) : gv np (0, 14, x) := show x < 32 + 0 * np by omega
theorem gv_0_15 {np x : Nat} (hx : x < 32) : gv np (0, 15, x) := show x < 32 + 0 * np by omega
theorem gv_0_16 {np x : Nat} (hx : x < 6) : gv np (0, 16, x) := show x < 6 + 0 * np by omega
theorem gv_1_0 {np p : Nat} (hp : p < np) : gv np (1, 0, p) := show p < 0 + 1 * np by omega
theorem gv_1_1 {np p : Nat} (hp : p < np) : gv np (1, 1, p) := show p < 0 + 1 * np by omega
theorem gv_1_3 {np x : Nat} (hx : x < 32) : gv np (1, 3, x) := show x < 32 + 0 * np by omega
theorem gv_1_4 {np d i : Nat} (hd : d < 32) (hi : i < 5) : gv np (1, 4, 5 * d + i) := show 5 * d + i < 160 + 0 * np by omega
theorem gi_1_4 (d : Nat) {i : Nat} (hi : i < 5) : gi (1, 4, 5 * d + i) = (38 + d, i) := by
  show (38 + 1 * ((5 * d + i) / 5), 0 + (5 * d + i) % 5) = _
  exact Prod.ext (show 38 + 1 * ((5 * d + i) / 5) = 38 + d by omega) (show 0 + (5 * d + i) % 5 = i by omega)
theorem gv_1_5 {np x : Nat} (hx : x < 32) : gv np (1, 5, x) := show x < 32 + 0 * np by omega
theorem gv_2_1 {np x : Nat} (hx : x < 32) : gv np (2, 1, x) := show x < 32 + 0 * np by omega
theorem gv_2_2 {np x : Nat} (hx : x < 32) : gv np (2, 2, x) := show x < 32 + 0 * np by omega
theorem gv_2_3 {np x : Nat} (hx : x < 32) : gv np (2, 3, x) := show x < 32 + 0 * np by omega
theorem gv_2_4 {np x : Nat} (hx : x < 256) : gv np (2, 4, x) := show x < 256 + 0 * np by omega
theorem gv_2_5 {np x : Nat} (hx : x < 32) : gv np (2, 5, x) := show x < 32 + 0 * np by omega
theorem gv_2_6 {np x : Nat} (hx : x < 160) : gv np (2, 6, x) := show x < 160 + 0 * np by omega
theorem gv_2_7 {np x : Nat} (hx : x < 32) : gv np (2, 7, x) := show x < 32 + 0 * np by omega
theorem gv_2_8 {np x : Nat} (hx : x < 24) : gv np (2, 8, x) := show x < 24 + 0 * np by omega
theorem gv_2_9 {np x : Nat} (hx : x < 24) : gv np (2, 9, x) := show x < 24 + 0 * np by omega
theorem gv_2_10 {np x : Nat} (hx : x < 6) : gv np (2, 10, x) := show x < 6 + 0 * np by omega
theorem gv_2_11 {np x : Nat} (hx : x < 6) : gv np (2, 11, x) := show x < 6 + 0 * np by omega
theorem gv_2_12 {np x : Nat} (hx : x < 32) : gv np (2, 12, x) := show x < 32 + 0 * np by omega
theorem gv_2_13 {np x : Nat} (hx : x < 32) : gv np (2, 13, x) := show x < 32 + 0 * np by omega
theorem gv_2_14 {np x : Nat} (hx : x < 32) : gv np (2, 14, x) := show x < 32 + 0 * np by omega
theorem gv_2_15 {np x : Nat} (hx : x < 32) : gv np (2, 15, x) := show x < 32 + 0 * np by omega
theorem gv_2_16 {np x : Nat} (hx : x < 6) : gv np (2, 16, x) := show x < 6 + 0 * np by omega
theorem gv_3_0 {np x : Nat} (hx : x < 160) : gv np (3, 0, x) := show x < 160 + 0 * np by omega
end
section
/-! Rows over the world: reading and writing fields and arrays by cell numbers. -/
section GRW
variable {p : Program} {l : Launch} {e : Env} {R : Room} {s : State} {m : MethodId} {args : Array Value} {below : List Frame} {meth : Method} {c : Code} {H : Heap} {locs : List Loc} {cells slots : Nat} {Q : State → Prop}
variable {cc : ByteArray} {pc : Nat} {ls : Array Slot} {rest : List Value} {g : gG} {A : Nat → Prop} {ad : Nat → Nat} {np : Nat} {u v : gS} {H0 : Heap} {Ts : List Cond} {own ref C host : String} {T : u_T} {N ci index k j : Nat} {fs : (Nat → Int32) → List Value} {q : Nat × Nat × Nat} {z : Int32}
theorem gy_gi (hexec : p.tables.exec = Jvm.exec) (hb : c.code = cc) (hts : ∀ w ∈ Ts, w.before args s = true) (hin : ∀ w ∈ u_ws C T N, w ∈ Ts) (hown : s.vm.findClass own = some m.cls) (hK : va_K g.1 gcl (gty g) s) (hc : gcl[ci]? = some (C, T, N)) (hj : j < N) (hlink : (Cond.fieldLink own index ref (T j).2.1 (T j).2.2.1).before args s = true) (hsame : ∀ x, s.fieldFound? (T j).1 (T j).2.1 (T j).2.2.1 = some x → s.fieldFound? ref (T j).2.1 (T j).2.2.1 = some x) (hfj : ∀ r, (fs r)[j]? = some (.int (r j)))
    (hW : gW g A ad np u v H) (hk : k < 94 + 5 * np) (hce : ∀ σ τ, ge g ad np σ τ k = .inr (ci, fs (σ k))) (hq : gv np q) (hg : gi q = (k, j)) (hz : gr u v q = z) (hdg : decode cc pc = .ok (.getfield index, 3))
    (kk : W p l e R s m args below meth c H locs cells slots Q (F0 m (pc + 3) ls (.int z :: rest))) : W p l e R s m args below meth c H locs cells slots Q (F0 m pc ls (.ref (ad k) :: rest)) := by
  obtain ⟨σ, τ, hP, hD, hr, hl1, hl2⟩ := hW
  have hz2 : σ k j = z := by rw [← hz, ← hr q hq, hg]
  exact va_get (v := .int z) hexec hb hts hin hown hK hP k ((gw_at hk).trans (by rw [hce])) hc j hj hlink hsame (by rw [hfj, hz2]) hdg kk
theorem gy_giN (hexec : p.tables.exec = Jvm.exec) (hb : c.code = cc) (hts : ∀ w ∈ Ts, w.before args s = true) (hin : ∀ w ∈ u_ws C T N, w ∈ Ts) (hown : s.vm.findClass own = some m.cls) (hK : va_K g.1 gcl (gty g) s) (hc : gcl[ci]? = some (C, T, N)) (hj : j < N) (hlink : (Cond.fieldLinkNest own index ref (T j).2.1 (T j).2.2.1 host).before args s = true) (hsame : ∀ x, s.fieldFound? (T j).1 (T j).2.1 (T j).2.2.1 = some x → s.fieldFound? ref (T j).2.1 (T j).2.2.1 = some x) (hfj : ∀ r, (fs r)[j]? = some (.int (r j)))
    (hW : gW g A ad np u v H) (hk : k < 94 + 5 * np) (hce : ∀ σ τ, ge g ad np σ τ k = .inr (ci, fs (σ k))) (hq : gv np q) (hg : gi q = (k, j)) (hz : gr u v q = z) (hdg : decode cc pc = .ok (.getfield index, 3))
    (kk : W p l e R s m args below meth c H locs cells slots Q (F0 m (pc + 3) ls (.int z :: rest))) : W p l e R s m args below meth c H locs cells slots Q (F0 m pc ls (.ref (ad k) :: rest)) := by
  obtain ⟨σ, τ, hP, hD, hr, hl1, hl2⟩ := hW
  have hz2 : σ k j = z := by rw [← hz, ← hr q hq, hg]
  exact va_getN (v := .int z) hexec hb hts hin hown hK hP k ((gw_at hk).trans (by rw [hce])) hc j hj hlink hsame (by rw [hfj, hz2]) hdg kk
/-- a field that holds a cell of the picture (or an enum's constant, by its place) -/
theorem gy_gr {t : Nat} (hexec : p.tables.exec = Jvm.exec) (hb : c.code = cc) (hts : ∀ w ∈ Ts, w.before args s = true) (hin : ∀ w ∈ u_ws C T N, w ∈ Ts) (hown : s.vm.findClass own = some m.cls) (hK : va_K g.1 gcl (gty g) s) (hc : gcl[ci]? = some (C, T, N)) (hj : j < N) (hlink : (Cond.fieldLink own index ref (T j).2.1 (T j).2.2.1).before args s = true) (hsame : ∀ x, s.fieldFound? (T j).1 (T j).2.1 (T j).2.2.1 = some x → s.fieldFound? ref (T j).2.1 (T j).2.2.1 = some x) (hfj : ∀ r, (fs r)[j]? = some (.ref (ad t)))
    (hW : gW g A ad np u v H) (hk : k < 94 + 5 * np) (hce : ∀ σ τ, ge g ad np σ τ k = .inr (ci, fs (σ k))) (hdg : decode cc pc = .ok (.getfield index, 3))
    (kk : W p l e R s m args below meth c H locs cells slots Q (F0 m (pc + 3) ls (.ref (ad t) :: rest))) : W p l e R s m args below meth c H locs cells slots Q (F0 m pc ls (.ref (ad k) :: rest)) := by
  obtain ⟨σ, τ, hP, hD, hr, hl1, hl2⟩ := hW
  exact va_get (v := .ref (ad t)) hexec hb hts hin hown hK hP k ((gw_at hk).trans (by rw [hce])) hc j hj hlink hsame (hfj _) hdg kk
theorem gy_grN {t : Nat} (hexec : p.tables.exec = Jvm.exec) (hb : c.code = cc) (hts : ∀ w ∈ Ts, w.before args s = true) (hin : ∀ w ∈ u_ws C T N, w ∈ Ts) (hown : s.vm.findClass own = some m.cls) (hK : va_K g.1 gcl (gty g) s) (hc : gcl[ci]? = some (C, T, N)) (hj : j < N) (hlink : (Cond.fieldLinkNest own index ref (T j).2.1 (T j).2.2.1 host).before args s = true) (hsame : ∀ x, s.fieldFound? (T j).1 (T j).2.1 (T j).2.2.1 = some x → s.fieldFound? ref (T j).2.1 (T j).2.2.1 = some x) (hfj : ∀ r, (fs r)[j]? = some (.ref (ad t)))
    (hW : gW g A ad np u v H) (hk : k < 94 + 5 * np) (hce : ∀ σ τ, ge g ad np σ τ k = .inr (ci, fs (σ k))) (hdg : decode cc pc = .ok (.getfield index, 3))
    (kk : W p l e R s m args below meth c H locs cells slots Q (F0 m (pc + 3) ls (.ref (ad t) :: rest))) : W p l e R s m args below meth c H locs cells slots Q (F0 m pc ls (.ref (ad k) :: rest)) := by
  obtain ⟨σ, τ, hP, hD, hr, hl1, hl2⟩ := hW
  exact va_getN (v := .ref (ad t)) hexec hb hts hin hown hK hP k ((gw_at hk).trans (by rw [hce])) hc j hj hlink hsame (hfj _) hdg kk
/-- a page's reply -/
theorem gy_geN (hexec : p.tables.exec = Jvm.exec) (hb : c.code = cc) (hts : ∀ w ∈ Ts, w.before args s = true) (hin : ∀ w ∈ u_ws C T N, w ∈ Ts) (hown : s.vm.findClass own = some m.cls) (hK : va_K g.1 gcl (gty g) s) (hc : gcl[ci]? = some (C, T, N)) (hj : j < N) (hlink : (Cond.fieldLinkNest own index ref (T j).2.1 (T j).2.2.1 host).before args s = true) (hsame : ∀ x, s.fieldFound? (T j).1 (T j).2.1 (T j).2.2.1 = some x → s.fieldFound? ref (T j).2.1 (T j).2.2.1 = some x) (hfj : ∀ r, (fs r)[j]? = some (.ref (g.2.2 (r j).toNatClampNeg)))
    (hW : gW g A ad np u v H) (hk : k < 94 + 5 * np) (hce : ∀ σ τ, ge g ad np σ τ k = .inr (ci, fs (σ k))) (hq : gv np q) (hg : gi q = (k, j)) (hz : gr u v q = z) (hdg : decode cc pc = .ok (.getfield index, 3))
    (kk : W p l e R s m args below meth c H locs cells slots Q (F0 m (pc + 3) ls (.ref (g.2.2 z.toNatClampNeg) :: rest))) : W p l e R s m args below meth c H locs cells slots Q (F0 m pc ls (.ref (ad k) :: rest)) := by
  obtain ⟨σ, τ, hP, hD, hr, hl1, hl2⟩ := hW
  have hz2 : σ k j = z := by rw [← hz, ← hr q hq, hg]
  exact va_getN (v := .ref (g.2.2 z.toNatClampNeg)) hexec hb hts hin hown hK hP k ((gw_at hk).trans (by rw [hce])) hc j hj hlink hsame (by rw [hfj, hz2]) hdg kk
theorem gy_pi {ty : FieldType} (hexec : p.tables.exec = Jvm.exec) (hb : c.code = cc) (hts : ∀ w ∈ Ts, w.before args s = true) (hin : ∀ w ∈ u_ws C T N, w ∈ Ts) (ty0 : Nat → FieldType) (hty : ∀ k, k < N → parseFieldDescriptor (T k).2.2.1 = some (ty0 k)) (hnm : ∀ a, a < N → ∀ b, b < N → a ≠ b → (T a).2.1 ≠ (T b).2.1) (hown : s.vm.findClass own = some m.cls) (hK : va_K g.1 gcl (gty g) s) (hc : gcl[ci]? = some (C, T, N)) (hj : j < N) (hlink : (Cond.fieldLink own index ref (T j).2.1 (T j).2.2.1).before args s = true) (hsame : ∀ x, s.fieldFound? (T j).1 (T j).2.1 (T j).2.2.1 = some x → s.fieldFound? ref (T j).2.1 (T j).2.2.1 = some x) (hfin : (T j).2.2.2 = false) (hd : parseFieldDescriptor (T j).2.2.1 = some ty) (hl : ∀ r, j < (fs r).length) (hfs : ∀ r x, fs (upd r j x) = (fs r).set j (.int x))
    (hW : gW g A ad np u v H) (hS : va_S A H0 H locs) (hk : k < 94 + 5 * np) (hce : ∀ σ τ, ge g ad np σ τ k = .inr (ci, fs (σ k))) (hq : gv np q) (hg : gi q = (k, j)) (hn : narrow ty (.int z) = .int z) (hfit : fits ty (.int z) = true) (hdg : decode cc pc = .ok (.putfield index, 3))
    (kk : ∀ (H1 : Heap) (locs1 : List Loc), gW g A ad np (gx u v q z).1 (gx u v q z).2 H1 → va_S A H0 H1 locs1 → W p l e R s m args below meth c H1 locs1 cells slots Q (F0 m (pc + 3) ls rest)) : W p l e R s m args below meth c H locs cells slots Q (F0 m pc ls (.int z :: .ref (ad k) :: rest)) := by
  obtain ⟨σ, τ, hP, hD, hr, hl1, hl2⟩ := hW
  refine va_put (v := .int z) (fs := fs (σ k)) hexec hb hts hin ty0 hty hnm hown hK hP hD hS k ((gw_at hk).trans (by rw [hce])) hc j hj hlink hsame hfin hd hn hfit (hl _) hdg (fun H1 locs1 hP1 hD1 hS1 => ?_)
  exact kk H1 locs1 (gW_wr hq hg hr hl1 hl2 (by rw [hce, gu_self, hfs]) hP1 hD1) hS1
theorem gy_piN {ty : FieldType} (hexec : p.tables.exec = Jvm.exec) (hb : c.code = cc) (hts : ∀ w ∈ Ts, w.before args s = true) (hin : ∀ w ∈ u_ws C T N, w ∈ Ts) (ty0 : Nat → FieldType) (hty : ∀ k, k < N → parseFieldDescriptor (T k).2.2.1 = some (ty0 k)) (hnm : ∀ a, a < N → ∀ b, b < N → a ≠ b → (T a).2.1 ≠ (T b).2.1) (hown : s.vm.findClass own = some m.cls) (hK : va_K g.1 gcl (gty g) s) (hc : gcl[ci]? = some (C, T, N)) (hj : j < N) (hlink : (Cond.fieldLinkNest own index ref (T j).2.1 (T j).2.2.1 host).before args s = true) (hsame : ∀ x, s.fieldFound? (T j).1 (T j).2.1 (T j).2.2.1 = some x → s.fieldFound? ref (T j).2.1 (T j).2.2.1 = some x) (hfin : (T j).2.2.2 = false) (hd : parseFieldDescriptor (T j).2.2.1 = some ty) (hl : ∀ r, j < (fs r).length) (hfs : ∀ r x, fs (upd r j x) = (fs r).set j (.int x))
    (hW : gW g A ad np u v H) (hS : va_S A H0 H locs) (hk : k < 94 + 5 * np) (hce : ∀ σ τ, ge g ad np σ τ k = .inr (ci, fs (σ k))) (hq : gv np q) (hg : gi q = (k, j)) (hn : narrow ty (.int z) = .int z) (hfit : fits ty (.int z) = true) (hdg : decode cc pc = .ok (.putfield index, 3))
    (kk : ∀ (H1 : Heap) (locs1 : List Loc), gW g A ad np (gx u v q z).1 (gx u v q z).2 H1 → va_S A H0 H1 locs1 → W p l e R s m args below meth c H1 locs1 cells slots Q (F0 m (pc + 3) ls rest)) : W p l e R s m args below meth c H locs cells slots Q (F0 m pc ls (.int z :: .ref (ad k) :: rest)) := by
  obtain ⟨σ, τ, hP, hD, hr, hl1, hl2⟩ := hW
  refine va_putN (v := .int z) (fs := fs (σ k)) hexec hb hts hin ty0 hty hnm hown hK hP hD hS k ((gw_at hk).trans (by rw [hce])) hc j hj hlink hsame hfin hd hn hfit (hl _) hdg (fun H1 locs1 hP1 hD1 hS1 => ?_)
  exact kk H1 locs1 (gW_wr hq hg hr hl1 hl2 (by rw [hce, gu_self, hfs]) hP1 hD1) hS1
/-- a page's reply is set -/
theorem gy_peN {ty : FieldType} (hexec : p.tables.exec = Jvm.exec) (hb : c.code = cc) (hts : ∀ w ∈ Ts, w.before args s = true) (hin : ∀ w ∈ u_ws C T N, w ∈ Ts) (ty0 : Nat → FieldType) (hty : ∀ k, k < N → parseFieldDescriptor (T k).2.2.1 = some (ty0 k)) (hnm : ∀ a, a < N → ∀ b, b < N → a ≠ b → (T a).2.1 ≠ (T b).2.1) (hown : s.vm.findClass own = some m.cls) (hK : va_K g.1 gcl (gty g) s) (hc : gcl[ci]? = some (C, T, N)) (hj : j < N) (hlink : (Cond.fieldLinkNest own index ref (T j).2.1 (T j).2.2.1 host).before args s = true) (hsame : ∀ x, s.fieldFound? (T j).1 (T j).2.1 (T j).2.2.1 = some x → s.fieldFound? ref (T j).2.1 (T j).2.2.1 = some x) (hfin : (T j).2.2.2 = false) (hd : parseFieldDescriptor (T j).2.2.1 = some ty) (hl : ∀ r, j < (fs r).length) (hfs : ∀ r x, fs (upd r j x) = (fs r).set j (.ref (g.2.2 x.toNatClampNeg)))
    (hW : gW g A ad np u v H) (hS : va_S A H0 H locs) (hk : k < 94 + 5 * np) (hce : ∀ σ τ, ge g ad np σ τ k = .inr (ci, fs (σ k))) (hq : gv np q) (hg : gi q = (k, j)) {w : Nat} (hw : z.toNatClampNeg = w) (hn : narrow ty (.ref (g.2.2 w)) = .ref (g.2.2 w)) (hfit : fits ty (.ref (g.2.2 w)) = true) (hdg : decode cc pc = .ok (.putfield index, 3))
    (kk : ∀ (H1 : Heap) (locs1 : List Loc), gW g A ad np (gx u v q z).1 (gx u v q z).2 H1 → va_S A H0 H1 locs1 → W p l e R s m args below meth c H1 locs1 cells slots Q (F0 m (pc + 3) ls rest)) : W p l e R s m args below meth c H locs cells slots Q (F0 m pc ls (.ref (g.2.2 w) :: .ref (ad k) :: rest)) := by
  obtain ⟨σ, τ, hP, hD, hr, hl1, hl2⟩ := hW
  subst hw
  refine va_putN (v := .ref (g.2.2 z.toNatClampNeg)) (fs := fs (σ k)) hexec hb hts hin ty0 hty hnm hown hK hP hD hS k ((gw_at hk).trans (by rw [hce])) hc j hj hlink hsame hfin hd hn hfit (hl _) hdg (fun H1 locs1 hP1 hD1 hS1 => ?_)
  exact kk H1 locs1 (gW_wr hq hg hr hl1 hl2 (by rw [hce, gu_self, hfs]) hP1 hD1) hS1
-- arrays
theorem gy_ia (hexec : p.tables.exec = Jvm.exec) (hb : c.code = cc) (hK : va_K g.1 gcl (gty g) s) (hW : gW g A ad np u v H) (hk : k < 94 + 5 * np) (h8 : gk k = 8) {i : Int32} (hin : vp_in i (gn k)) (hq : gv np q) (hg : gi q = (k, i.toNatClampNeg)) (hz : gr u v q = z) (hdg : decode cc pc = .ok (.iaload, 1))
    (kk : W p l e R s m args below meth c H locs cells slots Q (F0 m (pc + 1) ls (.int z :: rest))) : W p l e R s m args below meth c H locs cells slots Q (F0 m pc ls (.int i :: .ref (ad k) :: rest)) := by
  obtain ⟨σ, τ, hP, hD, hr, hl1, hl2⟩ := hW
  have hz2 : σ k i.toNatClampNeg = z := by rw [← hz, ← hr q hq, hg]
  refine va_iald hexec hb hK hP k 0 ((gw_at hk).trans (by rw [ge_8 h8])) rfl hin hdg ?_
  rw [hz2]
  exact kk
theorem gy_is (hexec : p.tables.exec = Jvm.exec) (hb : c.code = cc) (hK : va_K g.1 gcl (gty g) s) (hW : gW g A ad np u v H) (hS : va_S A H0 H locs) (hk : k < 94 + 5 * np) (h8 : gk k = 8) {i : Int32} (hin : vp_in i (gn k)) (hq : gv np q) (hg : gi q = (k, i.toNatClampNeg)) (hdg : decode cc pc = .ok (.iastore, 1))
    (kk : ∀ (H1 : Heap) (locs1 : List Loc), gW g A ad np (gx u v q z).1 (gx u v q z).2 H1 → va_S A H0 H1 locs1 → W p l e R s m args below meth c H1 locs1 cells slots Q (F0 m (pc + 1) ls rest)) : W p l e R s m args below meth c H locs cells slots Q (F0 m pc ls (.int z :: .int i :: .ref (ad k) :: rest)) := by
  obtain ⟨σ, τ, hP, hD, hr, hl1, hl2⟩ := hW
  refine va_iast hexec hb hK hP hD hS k 0 ((gw_at hk).trans (by rw [ge_8 h8])) rfl hin hdg (fun H1 locs1 hP1 hD1 hS1 => ?_)
  exact kk H1 locs1 (gW_wr hq hg hr hl1 hl2 (by rw [ge_8 h8, gu_self]) hP1 hD1) hS1
theorem gy_za (hexec : p.tables.exec = Jvm.exec) (hb : c.code = cc) (hK : va_K g.1 gcl (gty g) s) (hW : gW g A ad np u v H) (hk : k < 94 + 5 * np) (h8 : gk k = 9) {i : Int32} (hin : vp_in i (gn k)) (hq : gv np q) (hg : gi q = (k, i.toNatClampNeg)) (hz : gr u v q = z) (hdg : decode cc pc = .ok (.baload, 1))
    (kk : W p l e R s m args below meth c H locs cells slots Q (F0 m (pc + 1) ls (.int z :: rest))) : W p l e R s m args below meth c H locs cells slots Q (F0 m pc ls (.int i :: .ref (ad k) :: rest)) := by
  obtain ⟨σ, τ, hP, hD, hr, hl1, hl2⟩ := hW
  have hz2 : σ k i.toNatClampNeg = z := by rw [← hz, ← hr q hq, hg]
  refine va_zald hexec hb hK hP k 1 ((gw_at hk).trans (by rw [ge_9 h8])) rfl hin hdg ?_
  rw [hz2]
  exact kk
theorem gy_zs (hexec : p.tables.exec = Jvm.exec) (hb : c.code = cc) (hK : va_K g.1 gcl (gty g) s) (hW : gW g A ad np u v H) (hS : va_S A H0 H locs) (hk : k < 94 + 5 * np) (h8 : gk k = 9) {i : Int32} (hin : vp_in i (gn k)) (hnz : vp_nar .boolean z = z) (hq : gv np q) (hg : gi q = (k, i.toNatClampNeg)) (hdg : decode cc pc = .ok (.bastore, 1))
    (kk : ∀ (H1 : Heap) (locs1 : List Loc), gW g A ad np (gx u v q z).1 (gx u v q z).2 H1 → va_S A H0 H1 locs1 → W p l e R s m args below meth c H1 locs1 cells slots Q (F0 m (pc + 1) ls rest)) : W p l e R s m args below meth c H locs cells slots Q (F0 m pc ls (.int z :: .int i :: .ref (ad k) :: rest)) := by
  obtain ⟨σ, τ, hP, hD, hr, hl1, hl2⟩ := hW
  refine va_zast hexec hb hK hP hD hS k 1 ((gw_at hk).trans (by rw [ge_9 h8])) rfl hin hdg (fun H1 locs1 hP1 hD1 hS1 => ?_)
  rw [hnz] at hP1 hD1
  exact kk H1 locs1 (gW_wr hq hg hr hl1 hl2 (by rw [ge_9 h8, gu_self]) hP1 hD1) hS1
theorem gy_la {w : Int64} (hexec : p.tables.exec = Jvm.exec) (hb : c.code = cc) (hK : va_K g.1 gcl (gty g) s) (hW : gW g A ad np u v H) (hk : k < 3) {i : Int32} (hin : vp_in i 32) (hz : u.2.2 k i.toNatClampNeg = w) (hdg : decode cc pc = .ok (.laload, 1))
    (kk : W p l e R s m args below meth c H locs cells slots Q (F0 m (pc + 1) ls (.long w :: rest))) : W p l e R s m args below meth c H locs cells slots Q (F0 m pc ls (.int i :: .ref (ad (71 + k)) :: rest)) := by
  obtain ⟨σ, τ, hP, hD, hr, hl1, hl2⟩ := hW
  have hk9 : gk (71 + k) = 10 ∧ gn (71 + k) = 32 := (show ∀ k : Fin 3, gk (71 + k.val) = 10 ∧ gn (71 + k.val) = 32 by decide) ⟨k, hk⟩
  have hz2 : τ (71 + k) i.toNatClampNeg = w := by rw [← hz, hl1 k hk]
  refine va_lald hexec hb hK hP (71 + k) 2 ((gw_at (by omega)).trans (by rw [ge_10 hk9.1])) rfl (by rw [hk9.2]; exact hin) hdg ?_
  rw [hz2]
  exact kk
theorem gy_lsC {w : Int64} (hexec : p.tables.exec = Jvm.exec) (hb : c.code = cc) (hK : va_K g.1 gcl (gty g) s) (hW : gW g A ad np u v H) (hS : va_S A H0 H locs) (hk : k < 3) {i : Int32} (hin : vp_in i 32) (hdg : decode cc pc = .ok (.lastore, 1))
    (kk : ∀ (H1 : Heap) (locs1 : List Loc), gW g A ad np (u.1, u.2.1, guL u.2.2 k i.toNatClampNeg w) v H1 → va_S A H0 H1 locs1 → W p l e R s m args below meth c H1 locs1 cells slots Q (F0 m (pc + 1) ls rest)) : W p l e R s m args below meth c H locs cells slots Q (F0 m pc ls (.long w :: .int i :: .ref (ad (71 + k)) :: rest)) := by
  obtain ⟨σ, τ, hP, hD, hr, hl1, hl2⟩ := hW
  have hk9 : gk (71 + k) = 10 ∧ gn (71 + k) = 32 := (show ∀ k : Fin 3, gk (71 + k.val) = 10 ∧ gn (71 + k.val) = 32 by decide) ⟨k, hk⟩
  refine va_last hexec hb hK hP hD hS (71 + k) 2 ((gw_at (by omega)).trans (by rw [ge_10 hk9.1])) rfl (by rw [hk9.2]; exact hin) hdg (fun H1 locs1 hP1 hD1 hS1 => ?_)
  exact kk H1 locs1 (gW_wrL hk hr hl1 hl2 (by rw [ge_10 hk9.1, guL_self]) hP1 hD1) hS1
theorem gy_laM {w : Int64} (hexec : p.tables.exec = Jvm.exec) (hb : c.code = cc) (hK : va_K g.1 gcl (gty g) s) (hW : gW g A ad np u v H) (hk : k < 2) {i : Int32} (hin : vp_in i 32) (hz : v.2.2 k i.toNatClampNeg = w) (hdg : decode cc pc = .ok (.laload, 1))
    (kk : W p l e R s m args below meth c H locs cells slots Q (F0 m (pc + 1) ls (.long w :: rest))) : W p l e R s m args below meth c H locs cells slots Q (F0 m pc ls (.int i :: .ref (ad (92 + k)) :: rest)) := by
  obtain ⟨σ, τ, hP, hD, hr, hl1, hl2⟩ := hW
  have hk9 : gk (92 + k) = 10 ∧ gn (92 + k) = 32 := (show ∀ k : Fin 2, gk (92 + k.val) = 10 ∧ gn (92 + k.val) = 32 by decide) ⟨k, hk⟩
  have hz2 : τ (92 + k) i.toNatClampNeg = w := by rw [← hz, hl2 k hk]
  refine va_lald hexec hb hK hP (92 + k) 2 ((gw_at (by omega)).trans (by rw [ge_10 hk9.1])) rfl (by rw [hk9.2]; exact hin) hdg ?_
  rw [hz2]
  exact kk
theorem gy_lsM {w : Int64} (hexec : p.tables.exec = Jvm.exec) (hb : c.code = cc) (hK : va_K g.1 gcl (gty g) s) (hW : gW g A ad np u v H) (hS : va_S A H0 H locs) (hk : k < 2) {i : Int32} (hin : vp_in i 32) (hdg : decode cc pc = .ok (.lastore, 1))
    (kk : ∀ (H1 : Heap) (locs1 : List Loc), gW g A ad np u (v.1, v.2.1, guL v.2.2 k i.toNatClampNeg w) H1 → va_S A H0 H1 locs1 → W p l e R s m args below meth c H1 locs1 cells slots Q (F0 m (pc + 1) ls rest)) : W p l e R s m args below meth c H locs cells slots Q (F0 m pc ls (.long w :: .int i :: .ref (ad (92 + k)) :: rest)) := by
  obtain ⟨σ, τ, hP, hD, hr, hl1, hl2⟩ := hW
  have hk9 : gk (92 + k) = 10 ∧ gn (92 + k) = 32 := (show ∀ k : Fin 2, gk (92 + k.val) = 10 ∧ gn (92 + k.val) = 32 by decide) ⟨k, hk⟩
  refine va_last hexec hb hK hP hD hS (92 + k) 2 ((gw_at (by omega)).trans (by rw [ge_10 hk9.1])) rfl (by rw [hk9.2]; exact hin) hdg (fun H1 locs1 hP1 hD1 hS1 => ?_)
  exact kk H1 locs1 (gW_wrM hk hr hl1 hl2 (by rw [ge_10 hk9.1, guL_self]) hP1 hD1) hS1
theorem gy_aP (hexec : p.tables.exec = Jvm.exec) (hb : c.code = cc) (hK : va_K g.1 gcl (gty g) s) (hW : gW g A ad np u v H) {i : Nat} (hi : i < np) (hnp : np ≤ 32) {x : Int32} (hx : x = nI i) (hdg : decode cc pc = .ok (.aaload, 1))
    (kk : W p l e R s m args below meth c H locs cells slots Q (F0 m (pc + 1) ls (.ref (ad (gp i)) :: rest))) : W p l e R s m args below meth c H locs cells slots Q (F0 m pc ls (.int x :: .ref (ad 2) :: rest)) := by
  obtain ⟨σ, τ, hP, hD, hr, hl1, hl2⟩ := hW
  subst hx
  refine va_aldq hexec hb hK hP 2 3 (gw_at (by omega)) rfl (vp_in_nI (by omega) (by omega)) hdg ?_
  rw [nI_clamp (by omega), if_pos hi]
  exact kk
theorem gy_aH (hexec : p.tables.exec = Jvm.exec) (hb : c.code = cc) (hK : va_K g.1 gcl (gty g) s) (hW : gW g A ad np u v H) {i : Nat} (hi : i < 6) {x : Int32} (hx : x = nI i) (hdg : decode cc pc = .ok (.aaload, 1))
    (kk : W p l e R s m args below meth c H locs cells slots Q (F0 m (pc + 1) ls (.ref (ad (4 + 3 * i)) :: rest))) : W p l e R s m args below meth c H locs cells slots Q (F0 m pc ls (.int x :: .ref (ad 3) :: rest)) := by
  obtain ⟨σ, τ, hP, hD, hr, hl1, hl2⟩ := hW
  subst hx
  refine va_aldq hexec hb hK hP 3 4 (gw_at (by omega)) rfl (vp_in_nI hi (by omega)) hdg ?_
  rw [nI_clamp (by omega)]
  exact kk
theorem gy_aldA {D : va_G} {cl : List vw_C} {tys : List (ClassId × FieldType)} {ws : va_W} {a : Nat} (hexec : p.tables.exec = Jvm.exec) (hb : c.code = cc) (hK : va_K D cl tys s) (hP : va_P D cl ws H) (q0 t0 : Nat) {cA : ClassId} {t : FieldType} {n : Nat} {f : Nat → Option Nat} (ha : ws[q0]? = some (a, .inl (cA, n, .inr (.inr (.inr (.inr f)))))) (ht : tys[t0]? = some (cA, .array t)) {i : Int32} (hin : vp_in i n) (hdg : decode cc pc = .ok (.aaload, 1))
    (kk : W p l e R s m args below meth c H locs cells slots Q (F0 m (pc + 1) ls (va_rf (f i.toNatClampNeg) :: rest))) : W p l e R s m args below meth c H locs cells slots Q (F0 m pc ls (.int i :: .ref a :: rest)) := by
  have hlt : i.toNatClampNeg < n := Nat.not_le.mp fun q => hin (Or.inr q)
  exact W.aald (v := va_rf (f i.toNatClampNeg)) (ty := .array t) hexec hb (hP q0 _ ha) ((hK.2 t0 _ ht).1 n (fun j => va_rf (f j))) rfl (fun q => by cases q) (by show ¬ (i < 0 ∨ (arrV _ _ _).slots.size ≤ _); rw [arrV_size]; exact hin) (by show (arrV _ _ _).slots[_]? = _; rw [arrV_read _ _ hlt]) rfl rfl hdg kk
theorem gy_aL (hexec : p.tables.exec = Jvm.exec) (hb : c.code = cc) (hK : va_K g.1 gcl (gty g) s) (hW : gW g A ad np u v H) {i : Nat} (hi : i < 32) {x : Int32} (hx : x = nI i) (hdg : decode cc pc = .ok (.aaload, 1))
    (kk : W p l e R s m args below meth c H locs cells slots Q (F0 m (pc + 1) ls (.ref (ad (38 + i)) :: rest))) : W p l e R s m args below meth c H locs cells slots Q (F0 m pc ls (.int x :: .ref (ad 37) :: rest)) := by
  obtain ⟨σ, τ, hP, hD, hr, hl1, hl2⟩ := hW
  subst hx
  refine gy_aldA (t := .int) hexec hb hK hP 37 5 (gw_at (by omega)) rfl (vp_in_nI hi (by omega)) hdg ?_
  rw [nI_clamp (by omega)]
  exact kk
theorem gy_al (hexec : p.tables.exec = Jvm.exec) (hb : c.code = cc) (hK : va_K g.1 gcl (gty g) s) (hW : gW g A ad np u v H) (hk : k < 94 + 5 * np) (h8 : gk k = 8) {n : Nat} (hn : gn k = n) (hdg : decode cc pc = .ok (.arraylength, 1))
    (kk : W p l e R s m args below meth c H locs cells slots Q (F0 m (pc + 1) ls (.int (nI n) :: rest))) : W p l e R s m args below meth c H locs cells slots Q (F0 m pc ls (.ref (ad k) :: rest)) := by
  obtain ⟨σ, τ, hP, hD, hr, hl1, hl2⟩ := hW
  exact va_alen hexec hb hK hP k 0 ((gw_at hk).trans (by rw [ge_8 h8])) (ty := .int) rfl (by rw [hn]; rfl) hdg kk
theorem gW_recv (hK : va_K g.1 gcl (gty g) s) (hW : gW g A ad np u v H) (hk : k < 94 + 5 * np) (hce : ∀ σ τ, ge g ad np σ τ k = .inr (ci, fs (σ k))) {r : vw_C} (hc : gcl[ci]? = some r) : ∃ cell : Cell, H[ad k]? = some cell ∧ cell.vm.isStatics = false ∧ s.vm.findClass r.1 = some cell.cls := by
  obtain ⟨σ, τ, hP, hD, hr, hl1, hl2⟩ := hW
  exact va_recv hK hP hc ((gw_at hk).trans (by rw [hce]))
end GRW
end
section
/-! Contracts over the world, and calls by them. -/
def rmD (d c s : Nat) : Room := { frames := d, cells := c, slots := s, locals := 40 * d }
def gWG : List Cond := lw_tbl.filter goodWord
theorem gWG_in {w : Cond} (h : w ∈ lw_tbl) (hg : goodWord w = true) : w ∈ gWG := List.mem_filter.mpr ⟨h, hg⟩
theorem gWG_good {x : Cond} {ws : List Cond} (h : ∀ w ∈ ws, w ∈ gWG) : GoodIn (x :: gWG) ws := fun w hw => ⟨List.mem_cons_of_mem _ (h w hw), good_of_word (List.mem_filter.mp (h w hw)).2⟩
theorem gWG_good0 {ws : List Cond} (h : ∀ w ∈ ws, w ∈ gWG) : GoodIn gWG ws := fun w hw => ⟨h w hw, good_of_word (List.mem_filter.mp (h w hw)).2⟩
def gNok : Cond → Bool
  | .fieldLinkNest .. => true
  | .methodLinkNest .. => true
  | _ => false
def gN : List Cond := lw_tbl.filter gNok
theorem gN_in {w : Cond} (h : w ∈ lw_tbl) (hg : gNok w = true) : w ∈ gN := List.mem_filter.mpr ⟨h, hg⟩
theorem gN_moved {w : Cond} (h : w ∈ gN) {s U : State} (hW : s.WarmedH U.vm) (hZ : va_Nw w s) : va_Nw w U := by
  have h1 := (List.mem_filter.mp h).2
  cases w <;> first | exact va_Nw.warmF hW hZ | exact va_Nw.warmM hW hZ | (exact absurd h1 (by simp [gNok]))
theorem gN_same {w : Cond} (h : w ∈ gN) {u U : State} (hW : u.vm = U.vm) (hZ : va_Nw w u) : va_Nw w U := by
  have h1 := (List.mem_filter.mp h).2
  cases w <;> first | exact va_Nw.same rfl hW hZ | (exact absurd h1 (by simp [gNok]))
/-- what a method takes as given of the tables, beside the words -/
def gK (g : gG) (A : Nat → Prop) (U : State) : Prop := va_K g.1 gcl (gty g) U ∧ va_En R_Reply gRd ["HERE", "MOVED", "GONE"] [] g.2.2 A U U.heap ∧ (∀ w ∈ gN, va_Nw w U) ∧ va_AO R_Page U ∧ va_AO R_Host U
theorem gK_moved {g : gG} {A : Nat → Prop} {s U : State} {H : Heap} {locs : List Loc} (h : gK g A s) (hS : va_S A s.heap H locs) (hU : U.heap = H) (hW : s.WarmedH U.vm) : gK g A U := by
  obtain ⟨h1, h2, h3, h4, h5⟩ := h
  refine ⟨va_K.moved hW.alike h1, ?_, fun w hw => gN_moved hw hW (h3 w hw), va_AO.moved hW.alike h4, va_AO.moved hW.alike h5⟩
  rw [hU]
  exact va_En.moved hW.alike (h2.kept hS.2.1)
theorem gK_calling {g : gG} {A : Nat → Prop} {U : State} (h : gK g A U) (f : JFrame) (mk : MethodId) (a : Array Value) : gK g A (U.calling f mk a) := by
  obtain ⟨h1, h2, h3, h4, h5⟩ := h
  exact ⟨va_K.moved (u := U) (U := U.calling f mk a) (Vm.Alike.refl U.vm) h1, va_En.moved (u := U) (U := U.calling f mk a) (Vm.Alike.refl U.vm) h2, fun w hw => gN_same hw rfl (h3 w hw), va_AO.moved (u := U) (U := U.calling f mk a) (Vm.Alike.refl U.vm) h4, va_AO.moved (u := U) (U := U.calling f mk a) (Vm.Alike.refl U.vm) h5⟩
abbrev gcx (g : gG) (A : Nat → Prop) (p : Program) (s : State) (m : MethodId) (args : Array Value) (c : Code) (cc : ByteArray) (nL : Nat) (own : String) : Prop := CallFix p m c cc nL s args gWG own ∧ gK g A s
def gPc (As : List Value) (g : gG) (A : Nat → Prop) (ad : Nat → Nat) (np : Nat) (u v : gS) : Array Value → State → Prop := va_Pc As (fun U => gW g A ad np u v U.heap ∧ gK g A U)
theorem gPc_blind {As : List Value} {g : gG} {A : Nat → Prop} {ad : Nat → Nat} {np : Nat} {u v : gS} : FrameBlind (gPc As g A ad np u v) := fun a U f mk h => ⟨h.1, h.2.1, gK_calling h.2.2 f mk a⟩
theorem gPc_at {As : List Value} {g : gG} {A : Nat → Prop} {ad : Nat → Nat} {np : Nat} {u v : gS} {s : State} {H : Heap} {locs : List Loc} (hK : gK g A s) (hW : gW g A ad np u v H) (hS : va_S A s.heap H locs) : ∀ U : State, U.heap = H → s.WarmedH U.vm → gPc As g A ad np u v As.toArray U := fun U hU hw => ⟨rfl, by rw [hU]; exact hW, gK_moved hK hS hU hw⟩
def CtI (l : Launch) (y : MethodName) (b : ByteArray) (nl : Nat) (rt : FieldType) (d : Nat) (As : List Value) (g : gG) (A : Nat → Prop) (ad : Nat → Nat) (np : Nat) (u v : gS) (post : Int32 → gS × gS → Prop) : Prop := Met l y (.code y b nl (some rt) :: gWG) (rmD d 0 0) (gPc As g A ad np u v) (va_Qi post (fun t U => gW g A ad np t.1 t.2 U.heap) A) 0 0 A
def CtL (l : Launch) (y : MethodName) (b : ByteArray) (nl : Nat) (d : Nat) (As : List Value) (g : gG) (A : Nat → Prop) (ad : Nat → Nat) (np : Nat) (u v : gS) (post : Int64 → gS × gS → Prop) : Prop := Met l y (.code y b nl (some .long) :: gWG) (rmD d 0 0) (gPc As g A ad np u v) (va_Ql post (fun t U => gW g A ad np t.1 t.2 U.heap) A) 0 0 A
def CtV (l : Launch) (y : MethodName) (b : ByteArray) (nl : Nat) (d : Nat) (As : List Value) (g : gG) (A : Nat → Prop) (ad : Nat → Nat) (np : Nat) (u v : gS) (post : gS × gS → Prop) : Prop := Met l y (.code y b nl none :: gWG) (rmD d 0 0) (gPc As g A ad np u v) (va_Qv post (fun t U => gW g A ad np t.1 t.2 U.heap) A) 0 0 A
def BdI (l : Launch) (b : ByteArray) (nl : Nat) (own : String) (d : Nat) (As : List Value) (g : gG) (A : Nat → Prop) (ad : Nat → Nat) (np : Nat) (u v : gS) (post : Int32 → gS × gS → Prop) : Prop :=
  ∀ (p : Program) (e : Env) (R : Room) (s : State) (m : MethodId) (args : Array Value) (below : List Frame) (meth : Method) (c : Code) (Q : State → Prop) (ls : Array Slot), gcx g A p s m args c b nl own → gW g A ad np u v s.heap → va_S A s.heap s.heap [] → d ≤ R.frames ∧ 40 * d ≤ R.locals → lv_has ls nl (lv_args 0 As) →
    (∀ (r : Int32) (t : gS × gS) (H : Heap) (locs : List Loc) (pc : Nat) (ls : Array Slot), post r t → gW g A ad np t.1 t.2 H → va_S A s.heap H locs → decode b pc = .ok (.ireturn, 1) → W p l e R s m args below meth c H locs 0 0 Q (F0 m pc ls [.int r])) → W p l e R s m args below meth c s.heap [] 0 0 Q (F0 m 0 ls [])
def BdL (l : Launch) (b : ByteArray) (nl : Nat) (own : String) (d : Nat) (As : List Value) (g : gG) (A : Nat → Prop) (ad : Nat → Nat) (np : Nat) (u v : gS) (post : Int64 → gS × gS → Prop) : Prop :=
  ∀ (p : Program) (e : Env) (R : Room) (s : State) (m : MethodId) (args : Array Value) (below : List Frame) (meth : Method) (c : Code) (Q : State → Prop) (ls : Array Slot), gcx g A p s m args c b nl own → gW g A ad np u v s.heap → va_S A s.heap s.heap [] → d ≤ R.frames ∧ 40 * d ≤ R.locals → lv_has ls nl (lv_args 0 As) →
    (∀ (r : Int64) (t : gS × gS) (H : Heap) (locs : List Loc) (pc : Nat) (ls : Array Slot), post r t → gW g A ad np t.1 t.2 H → va_S A s.heap H locs → decode b pc = .ok (.lreturn, 1) → W p l e R s m args below meth c H locs 0 0 Q (F0 m pc ls [.long r])) → W p l e R s m args below meth c s.heap [] 0 0 Q (F0 m 0 ls [])
def BdV (l : Launch) (b : ByteArray) (nl : Nat) (own : String) (d : Nat) (As : List Value) (g : gG) (A : Nat → Prop) (ad : Nat → Nat) (np : Nat) (u v : gS) (post : gS × gS → Prop) : Prop :=
  ∀ (p : Program) (e : Env) (R : Room) (s : State) (m : MethodId) (args : Array Value) (below : List Frame) (meth : Method) (c : Code) (Q : State → Prop) (ls : Array Slot), gcx g A p s m args c b nl own → gW g A ad np u v s.heap → va_S A s.heap s.heap [] → d ≤ R.frames ∧ 40 * d ≤ R.locals → lv_has ls nl (lv_args 0 As) →
    (∀ (t : gS × gS) (H : Heap) (locs : List Loc) (pc : Nat) (ls : Array Slot), post t → gW g A ad np t.1 t.2 H → va_S A s.heap H locs → decode b pc = .ok (.return_, 1) → W p l e R s m args below meth c H locs 0 0 Q (F0 m pc ls [])) → W p l e R s m args below meth c s.heap [] 0 0 Q (F0 m 0 ls [])
section GMK
variable {l : Launch} {y : MethodName} {b : ByteArray} {nl d : Nat} {rt : FieldType} {As : List Value} {g : gG} {A : Nat → Prop} {ad : Nat → Nat} {np : Nat} {u v : gS} {own : String}
theorem mkI {post : Int32 → gS × gS → Prop} (hy : plainName y.cls = true) (ho : y.cls = own) (hlen : (lg_sl As).length ≤ nl) (hnar : ∀ r t, post r t → narrow rt (.int r) = .int r) (h : BdI l b nl own d As g A ad np u v post) : CtI l y b nl rt d As g A ad np u v post := by
  refine Met.ofW (cc := b) (maxL := nl) (ret := some rt) hy rfl ?_
  intro p e s m args below meth c s₁ B hml hv
  obtain ⟨rfl, hW, hK⟩ := hv
  subst ho
  have hts := atoms_spec (ws := .code y b nl (some rt) :: gWG) B.pre
  have hl := lv_entry As (n := nl) hlen
  rw [lg_entry_eq]
  generalize (lg_sl As ++ List.replicate (nl - (lg_sl As).length) Slot.unset).toArray = ls at hl ⊢
  have hlocks := B.notSynchronized
  exact h p e _ s m _ below meth c _ ls ⟨⟨B.exec, B.bytes, hml, findClass_of_methodNamed B.named, fun w hw => hts w (List.mem_cons_of_mem _ hw)⟩, hK⟩ hW va_S.rf ⟨Nat.le_refl _, Nat.le_refl _⟩ hl (fun r t H locs pc ls hp hW1 hS1 hd => W.zret B.exec B.bytes B.returns (hnar r t hp) (fun t' ht _ => ⟨⟨r, t, rfl, hp, by rw [ht]; exact hW1⟩, hS1.F ht⟩) hS1.2.2 hd hlocks)
theorem mkL {post : Int64 → gS × gS → Prop} (hy : plainName y.cls = true) (ho : y.cls = own) (hlen : (lg_sl As).length ≤ nl) (h : BdL l b nl own d As g A ad np u v post) : CtL l y b nl d As g A ad np u v post := by
  refine Met.ofW (cc := b) (maxL := nl) (ret := some .long) hy rfl ?_
  intro p e s m args below meth c s₁ B hml hv
  obtain ⟨rfl, hW, hK⟩ := hv
  subst ho
  have hts := atoms_spec (ws := .code y b nl (some .long) :: gWG) B.pre
  have hl := lv_entry As (n := nl) hlen
  rw [lg_entry_eq]
  generalize (lg_sl As ++ List.replicate (nl - (lg_sl As).length) Slot.unset).toArray = ls at hl ⊢
  have hlocks := B.notSynchronized
  exact h p e _ s m _ below meth c _ ls ⟨⟨B.exec, B.bytes, hml, findClass_of_methodNamed B.named, fun w hw => hts w (List.mem_cons_of_mem _ hw)⟩, hK⟩ hW va_S.rf ⟨Nat.le_refl _, Nat.le_refl _⟩ hl (fun r t H locs pc ls hp hW1 hS1 hd => W.lret B.exec B.bytes B.returns (fun t' ht _ => ⟨⟨r, t, rfl, hp, by rw [ht]; exact hW1⟩, hS1.F ht⟩) hS1.2.2 hd hlocks)
theorem mkV {post : gS × gS → Prop} (hy : plainName y.cls = true) (ho : y.cls = own) (hlen : (lg_sl As).length ≤ nl) (h : BdV l b nl own d As g A ad np u v post) : CtV l y b nl d As g A ad np u v post := by
  refine Met.ofW (cc := b) (maxL := nl) (ret := none) hy rfl ?_
  intro p e s m args below meth c s₁ B hml hv
  obtain ⟨rfl, hW, hK⟩ := hv
  subst ho
  have hts := atoms_spec (ws := .code y b nl none :: gWG) B.pre
  have hl := lv_entry As (n := nl) hlen
  rw [lg_entry_eq]
  generalize (lg_sl As ++ List.replicate (nl - (lg_sl As).length) Slot.unset).toArray = ls at hl ⊢
  have hlocks := B.notSynchronized
  exact h p e _ s m _ below meth c _ ls ⟨⟨B.exec, B.bytes, hml, findClass_of_methodNamed B.named, fun w hw => hts w (List.mem_cons_of_mem _ hw)⟩, hK⟩ hW va_S.rf ⟨Nat.le_refl _, Nat.le_refl _⟩ hl (fun t H locs pc ls hp hW1 hS1 hd => W.vret B.exec B.bytes B.returns (fun t' ht _ => ⟨⟨t, rfl, hp, by rw [ht]; exact hW1⟩, hS1.F ht⟩) hS1.2.2 hd hlocks)
end GMK
/-- the words of a call: an instance method; a static one; a private static one of a nest mate -/
def gwD (y : MethodName) (n : Nat) : Prop := y.cls ≠ "java/lang/invoke/MethodHandle" ∧ y.cls ≠ "java/lang/invoke/VarHandle" ∧ (parseMethodDescriptor y.desc).map (fun d => d.parameters.length) = some n
def gwV (own : String) (index : Nat) (y : MethodName) (b : ByteArray) (nl : Nat) (ret : Option FieldType) (n : Nat) : Prop := Cond.methodLink own index y ∈ gWG ∧ Cond.instanceMethod y ∈ gWG ∧ Cond.selects y.cls y y ∈ gWG ∧ Cond.initialized y.cls ∈ gWG ∧ Cond.code y b nl ret ∈ gWG ∧ gwD y n
def gwS (own : String) (index : Nat) (y : MethodName) (b : ByteArray) (nl : Nat) (ret : Option FieldType) (n : Nat) : Prop := Cond.methodLink own index y ∈ gWG ∧ Cond.static y ∈ gWG ∧ Cond.initialized y.cls ∈ gWG ∧ Cond.code y b nl ret ∈ gWG ∧ gwD y n
def gwSN (own : String) (index : Nat) (y : MethodName) (host : String) (b : ByteArray) (nl : Nat) (ret : Option FieldType) (n : Nat) : Prop := Cond.methodLinkNest own index y host ∈ gN ∧ Cond.static y ∈ gWG ∧ Cond.initialized y.cls ∈ gWG ∧ Cond.code y b nl ret ∈ gWG ∧ gwD y n
theorem gWG_cons {x : Cond} (hx : x ∈ gWG) : GoodIn gWG (x :: gWG) := gWG_good0 (fun w hw => by rcases List.mem_cons.mp hw with rfl | h; exact hx; exact h)
section GCL
variable {p : Program} {l : Launch} {e : Env} {R : Room} {s : State} {m : MethodId} {args : Array Value} {below : List Frame} {meth : Method} {c : Code} {H : Heap} {locs : List Loc} {cells slots : Nat} {Q : State → Prop}
variable {cc : ByteArray} {pc nL : Nat} {ls : Array Slot} {rest st0 : List Value} {g : gG} {A : Nat → Prop} {ad : Nat → Nat} {np : Nat} {u v : gS} {own host : String} {index n maxL d : Nat} {y : MethodName} {bytes : ByteArray} {rt : FieldType} {b : Nat} {As : List Value}
theorem gcwV {ret : Option FieldType} (X : gcx g A p s m args c cc nL own) (hw : gwV own index y bytes maxL ret n) (hR : d + 1 ≤ R.frames ∧ 8 + (maxL + 11) + 40 * d ≤ R.locals) : CallW R s args own y.cls index y bytes maxL ret (.code y bytes maxL ret :: gWG) (rmD d 0 0) 0 0 n := by
  obtain ⟨⟨-, -, -, -, hts⟩, -⟩ := X
  obtain ⟨h1, h2, h3, h4, h5, h6⟩ := hw
  exact ⟨callB_of n hts (gWG_cons h5) rfl rfl rfl (hts _ h4) (hts _ h1) h6 hR, hts _ h2, hts _ h3⟩
theorem gcwS {ret : Option FieldType} (X : gcx g A p s m args c cc nL own) (hw : gwS own index y bytes maxL ret n) (hR : d + 1 ≤ R.frames ∧ 8 + (maxL + 11) + 40 * d ≤ R.locals) : CallB R s args own index y bytes maxL ret (.code y bytes maxL ret :: gWG) (rmD d 0 0) 0 0 n ∧ (Cond.static y).before args s = true := by
  obtain ⟨⟨-, -, -, -, hts⟩, -⟩ := X
  obtain ⟨h1, h2, h4, h5, h6⟩ := hw
  exact ⟨callB_of n hts (gWG_cons h5) rfl rfl rfl (hts _ h4) (hts _ h1) h6 hR, hts _ h2⟩
theorem gc_iV {post : Int32 → gS × gS → Prop} (X : gcx g A p s m args c cc nL own) (hw : gwV own index y bytes maxL (some rt) n) (hM : CtI l y bytes maxL rt d (.ref b :: As) g A ad np u v post) (hW : gW g A ad np u v H) (hS : va_S A s.heap H locs) (hv : ∃ cell : Cell, H[b]? = some cell ∧ cell.vm.isStatics = false ∧ s.vm.findClass y.cls = some cell.cls) (hR : d + 1 ≤ R.frames ∧ 8 + (maxL + 11) + 40 * d ≤ R.locals) (hn : As.length = n) (hls : ls.size = nL) (hst : st0 = As.reverse ++ .ref b :: rest) (hcat : (rest.map fun v => v.category).sum ≤ 8) (hdg : decode cc pc = .ok (.invokevirtual index, 3)) (hcr : cells + 0 ≤ R.cells ∧ slots + 0 ≤ R.slots)
    (kk : ∀ (r : Int32) (t : gS × gS) (H1 : Heap) (locs1 : List Loc), post r t → gW g A ad np t.1 t.2 H1 → va_S A s.heap H1 locs1 → W p l e R s m args below meth c H1 locs1 cells slots Q (F0 m (pc + 3) ls (.int r :: rest))) : W p l e R s m args below meth c H locs cells slots Q (F0 m pc ls st0) := by
  subst hst
  exact va_calli (va_runV X.1 hM (gcwV X hw hR) ⟨gPc_blind, hv, gPc_at X.2 hW hS⟩ rfl hn hls rfl (lv_room hcat) hdg hcr) hS (fun _ _ h => h) (fun _ h => h) (fun r t t' H1 locs1 ht _ hp hB _ _ hS1 => kk r t H1 locs1 hp (by rw [← ht]; exact hB) hS1)
theorem gc_lV {post : Int64 → gS × gS → Prop} (X : gcx g A p s m args c cc nL own) (hw : gwV own index y bytes maxL (some .long) n) (hM : CtL l y bytes maxL d (.ref b :: As) g A ad np u v post) (hW : gW g A ad np u v H) (hS : va_S A s.heap H locs) (hv : ∃ cell : Cell, H[b]? = some cell ∧ cell.vm.isStatics = false ∧ s.vm.findClass y.cls = some cell.cls) (hR : d + 1 ≤ R.frames ∧ 8 + (maxL + 11) + 40 * d ≤ R.locals) (hn : As.length = n) (hls : ls.size = nL) (hst : st0 = As.reverse ++ .ref b :: rest) (hcat : (rest.map fun v => v.category).sum ≤ 8) (hdg : decode cc pc = .ok (.invokevirtual index, 3)) (hcr : cells + 0 ≤ R.cells ∧ slots + 0 ≤ R.slots)
    (kk : ∀ (r : Int64) (t : gS × gS) (H1 : Heap) (locs1 : List Loc), post r t → gW g A ad np t.1 t.2 H1 → va_S A s.heap H1 locs1 → W p l e R s m args below meth c H1 locs1 cells slots Q (F0 m (pc + 3) ls (.long r :: rest))) : W p l e R s m args below meth c H locs cells slots Q (F0 m pc ls st0) := by
  subst hst
  exact va_calll (va_runV X.1 hM (gcwV X hw hR) ⟨gPc_blind, hv, gPc_at X.2 hW hS⟩ rfl hn hls rfl (lv_room hcat) hdg hcr) hS (fun _ _ h => h) (fun _ h => h) (fun r t t' H1 locs1 ht _ hp hB _ _ hS1 => kk r t H1 locs1 hp (by rw [← ht]; exact hB) hS1)
theorem gc_vV {post : gS × gS → Prop} (X : gcx g A p s m args c cc nL own) (hw : gwV own index y bytes maxL none n) (hM : CtV l y bytes maxL d (.ref b :: As) g A ad np u v post) (hW : gW g A ad np u v H) (hS : va_S A s.heap H locs) (hv : ∃ cell : Cell, H[b]? = some cell ∧ cell.vm.isStatics = false ∧ s.vm.findClass y.cls = some cell.cls) (hR : d + 1 ≤ R.frames ∧ 8 + (maxL + 11) + 40 * d ≤ R.locals) (hn : As.length = n) (hls : ls.size = nL) (hst : st0 = As.reverse ++ .ref b :: rest) (hcat : (rest.map fun v => v.category).sum ≤ 8) (hdg : decode cc pc = .ok (.invokevirtual index, 3)) (hcr : cells + 0 ≤ R.cells ∧ slots + 0 ≤ R.slots)
    (kk : ∀ (t : gS × gS) (H1 : Heap) (locs1 : List Loc), post t → gW g A ad np t.1 t.2 H1 → va_S A s.heap H1 locs1 → W p l e R s m args below meth c H1 locs1 cells slots Q (F0 m (pc + 3) ls rest)) : W p l e R s m args below meth c H locs cells slots Q (F0 m pc ls st0) := by
  subst hst
  exact va_callv (va_runV X.1 hM (gcwV X hw hR) ⟨gPc_blind, hv, gPc_at X.2 hW hS⟩ rfl hn hls rfl (lv_room hcat) hdg hcr) hS (fun _ _ h => h) (fun _ h => h) (fun t t' H1 locs1 ht _ hp hB _ _ hS1 => kk t H1 locs1 hp (by rw [← ht]; exact hB) hS1)
theorem gc_iS {post : Int32 → gS × gS → Prop} (X : gcx g A p s m args c cc nL own) (hw : gwS own index y bytes maxL (some rt) n) (hM : CtI l y bytes maxL rt d As g A ad np u v post) (hW : gW g A ad np u v H) (hS : va_S A s.heap H locs) (hR : d + 1 ≤ R.frames ∧ 8 + (maxL + 11) + 40 * d ≤ R.locals) (hn : As.length = n) (hls : ls.size = nL) (hst : st0 = As.reverse ++ rest) (hcat : (rest.map fun v => v.category).sum ≤ 8) (hdg : decode cc pc = .ok (.invokestatic index, 3)) (hcr : cells + 0 ≤ R.cells ∧ slots + 0 ≤ R.slots)
    (kk : ∀ (r : Int32) (t : gS × gS) (H1 : Heap) (locs1 : List Loc), post r t → gW g A ad np t.1 t.2 H1 → va_S A s.heap H1 locs1 → W p l e R s m args below meth c H1 locs1 cells slots Q (F0 m (pc + 3) ls (.int r :: rest))) : W p l e R s m args below meth c H locs cells slots Q (F0 m pc ls st0) := by
  subst hst
  exact va_calli (va_runS X.1 hM (gcwS X hw hR) ⟨gPc_blind, gPc_at X.2 hW hS⟩ rfl hn hls rfl (lv_room hcat) hdg hcr) hS (fun _ _ h => h) (fun _ h => h) (fun r t t' H1 locs1 ht _ hp hB _ _ hS1 => kk r t H1 locs1 hp (by rw [← ht]; exact hB) hS1)
theorem gc_iSN {post : Int32 → gS × gS → Prop} (X : gcx g A p s m args c cc nL own) (hw : gwSN own index y host bytes maxL (some rt) n) (hM : CtI l y bytes maxL rt d As g A ad np u v post) (hW : gW g A ad np u v H) (hS : va_S A s.heap H locs) (hR : d + 1 ≤ R.frames ∧ 8 + (maxL + 11) + 40 * d ≤ R.locals) (hn : As.length = n) (hls : ls.size = nL) (hst : st0 = As.reverse ++ rest) (hcat : (rest.map fun v => v.category).sum ≤ 8) (hdg : decode cc pc = .ok (.invokestatic index, 3)) (hcr : cells + 0 ≤ R.cells ∧ slots + 0 ≤ R.slots)
    (kk : ∀ (r : Int32) (t : gS × gS) (H1 : Heap) (locs1 : List Loc), post r t → gW g A ad np t.1 t.2 H1 → va_S A s.heap H1 locs1 → W p l e R s m args below meth c H1 locs1 cells slots Q (F0 m (pc + 3) ls (.int r :: rest))) : W p l e R s m args below meth c H locs cells slots Q (F0 m pc ls st0) := by
  subst hst
  have hts := X.1.2.2.2.2
  obtain ⟨h1, h2, h4, h5, h6⟩ := hw
  exact va_calli (va_runSN X.1 hM ⟨va_cnB n hts (gWG_cons h5) rfl rfl rfl (X.2.2.2.1 _ h1) (hts _ h4) h6 hR, hts _ h2, trivial⟩ ⟨gPc_blind, gPc_at X.2 hW hS⟩ rfl hn hls rfl (lv_room hcat) hdg hcr) hS (fun _ _ h => h) (fun _ h => h) (fun r t t' H1 locs1 ht _ hp hB _ _ hS1 => kk r t H1 locs1 hp (by rw [← ht]; exact hB) hS1)
end GCL
end
