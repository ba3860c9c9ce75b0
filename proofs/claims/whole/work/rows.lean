section
-- ===== PART A: goes FIRST, ahead of the names: the tables' words, and 'selects' of the private methods out of them =====
/-- a private method of a class that the tables say can be made, by its rows of tables_1 -/
def lw_okq (q : MethodName × Nat) : Prop := (q.1.cls ≠ "java/lang/invoke/MethodHandle" ∧ q.1.cls ≠ "java/lang/invoke/VarHandle") ∧ Cond.instantiable q.1.cls q.2 ∈ tables_1 ∧ Cond.privateMethod q.1 ∈ tables_1 ∧ Cond.instanceMethod q.1 ∈ tables_1
theorem lw_p0 : lw_okq (⟨"PoliteGatherer$Web", "isTaken", "(II)Z"⟩, 4) := ⟨⟨by decide +kernel, by decide +kernel⟩, List.mem_of_getElem? (i := 21) (by decide +kernel), List.mem_of_getElem? (i := 214) (by decide +kernel), List.mem_of_getElem? (i := 215) (by decide +kernel)⟩
theorem lw_p1 : lw_okq (⟨"PoliteGatherer", "canChange", "(I)Z"⟩, 4) := ⟨⟨by decide +kernel, by decide +kernel⟩, List.mem_of_getElem? (i := 13) (by decide +kernel), List.mem_of_getElem? (i := 262) (by decide +kernel), List.mem_of_getElem? (i := 263) (by decide +kernel)⟩
theorem lw_p2 : lw_okq (⟨"PoliteGatherer$Gathering", "setAllFrom", "(I)V"⟩, 17) := ⟨⟨by decide +kernel, by decide +kernel⟩, List.mem_of_getElem? (i := 84) (by decide +kernel), List.mem_of_getElem? (i := 319) (by decide +kernel), List.mem_of_getElem? (i := 320) (by decide +kernel)⟩
theorem lw_p3 : lw_okq (⟨"PoliteGatherer$Gathering", "enqueueAll", "(LPoliteGatherer$Row;I)V"⟩, 17) := ⟨⟨by decide +kernel, by decide +kernel⟩, List.mem_of_getElem? (i := 84) (by decide +kernel), List.mem_of_getElem? (i := 323) (by decide +kernel), List.mem_of_getElem? (i := 324) (by decide +kernel)⟩
theorem lw_p4 : lw_okq (⟨"PoliteGatherer$Gathering", "setMark", "()V"⟩, 17) := ⟨⟨by decide +kernel, by decide +kernel⟩, List.mem_of_getElem? (i := 84) (by decide +kernel), List.mem_of_getElem? (i := 336) (by decide +kernel), List.mem_of_getElem? (i := 337) (by decide +kernel)⟩
theorem lw_p5 : lw_okq (⟨"PoliteGatherer$Gathering", "fetch", "(I)V"⟩, 17) := ⟨⟨by decide +kernel, by decide +kernel⟩, List.mem_of_getElem? (i := 84) (by decide +kernel), List.mem_of_getElem? (i := 371) (by decide +kernel), List.mem_of_getElem? (i := 372) (by decide +kernel)⟩
theorem lw_p6 : lw_okq (⟨"PoliteGatherer$Ranking", "listDocuments", "()V"⟩, 8) := ⟨⟨by decide +kernel, by decide +kernel⟩, List.mem_of_getElem? (i := 148) (by decide +kernel), List.mem_of_getElem? (i := 442) (by decide +kernel), List.mem_of_getElem? (i := 443) (by decide +kernel)⟩
theorem lw_p7 : lw_okq (⟨"PoliteGatherer$Ranking", "followLinks", "(I)V"⟩, 8) := ⟨⟨by decide +kernel, by decide +kernel⟩, List.mem_of_getElem? (i := 148) (by decide +kernel), List.mem_of_getElem? (i := 450) (by decide +kernel), List.mem_of_getElem? (i := 451) (by decide +kernel)⟩
theorem lw_p8 : lw_okq (⟨"PoliteGatherer$Ranking", "playRound", "()V"⟩, 8) := ⟨⟨by decide +kernel, by decide +kernel⟩, List.mem_of_getElem? (i := 148) (by decide +kernel), List.mem_of_getElem? (i := 455) (by decide +kernel), List.mem_of_getElem? (i := 456) (by decide +kernel)⟩
theorem lw_p9 : lw_okq (⟨"PoliteGatherer$Ranking", "passOn", "(I)V"⟩, 8) := ⟨⟨by decide +kernel, by decide +kernel⟩, List.mem_of_getElem? (i := 148) (by decide +kernel), List.mem_of_getElem? (i := 459) (by decide +kernel), List.mem_of_getElem? (i := 460) (by decide +kernel)⟩
theorem lw_p10 : lw_okq (⟨"PoliteGatherer$Ranking", "placeOf", "(I)I"⟩, 8) := ⟨⟨by decide +kernel, by decide +kernel⟩, List.mem_of_getElem? (i := 148) (by decide +kernel), List.mem_of_getElem? (i := 483) (by decide +kernel), List.mem_of_getElem? (i := 484) (by decide +kernel)⟩
theorem lw_p11 : lw_okq (⟨"PoliteGatherer$Ranking", "standsBefore", "(II)Z"⟩, 8) := ⟨⟨by decide +kernel, by decide +kernel⟩, List.mem_of_getElem? (i := 148) (by decide +kernel), List.mem_of_getElem? (i := 487) (by decide +kernel), List.mem_of_getElem? (i := 488) (by decide +kernel)⟩
theorem lw_p12 : lw_okq (⟨"PoliteGathererModel", "isPage", "(I)Z"⟩, 37) := ⟨⟨by decide +kernel, by decide +kernel⟩, List.mem_of_getElem? (i := 495) (by decide +kernel), List.mem_of_getElem? (i := 622) (by decide +kernel), List.mem_of_getElem? (i := 623) (by decide +kernel)⟩
theorem lw_p13 : lw_okq (⟨"PoliteGathererModel", "taken", "(II)I"⟩, 37) := ⟨⟨by decide +kernel, by decide +kernel⟩, List.mem_of_getElem? (i := 495) (by decide +kernel), List.mem_of_getElem? (i := 650) (by decide +kernel), List.mem_of_getElem? (i := 651) (by decide +kernel)⟩
theorem lw_p14 : lw_okq (⟨"PoliteGathererModel", "queue", "(II)V"⟩, 37) := ⟨⟨by decide +kernel, by decide +kernel⟩, List.mem_of_getElem? (i := 495) (by decide +kernel), List.mem_of_getElem? (i := 658) (by decide +kernel), List.mem_of_getElem? (i := 659) (by decide +kernel)⟩
theorem lw_p15 : lw_okq (⟨"PoliteGathererModel", "mark", "()V"⟩, 37) := ⟨⟨by decide +kernel, by decide +kernel⟩, List.mem_of_getElem? (i := 495) (by decide +kernel), List.mem_of_getElem? (i := 662) (by decide +kernel), List.mem_of_getElem? (i := 663) (by decide +kernel)⟩
def lw_privs_1 : List (MethodName × Nat) := [(⟨"PoliteGatherer$Web", "isTaken", "(II)Z"⟩, 4), (⟨"PoliteGatherer", "canChange", "(I)Z"⟩, 4), (⟨"PoliteGatherer$Gathering", "setAllFrom", "(I)V"⟩, 17), (⟨"PoliteGatherer$Gathering", "enqueueAll", "(LPoliteGatherer$Row;I)V"⟩, 17), (⟨"PoliteGatherer$Gathering", "setMark", "()V"⟩, 17), (⟨"PoliteGatherer$Gathering", "fetch", "(I)V"⟩, 17), (⟨"PoliteGatherer$Ranking", "listDocuments", "()V"⟩, 8), (⟨"PoliteGatherer$Ranking", "followLinks", "(I)V"⟩, 8), (⟨"PoliteGatherer$Ranking", "playRound", "()V"⟩, 8), (⟨"PoliteGatherer$Ranking", "passOn", "(I)V"⟩, 8), (⟨"PoliteGatherer$Ranking", "placeOf", "(I)I"⟩, 8), (⟨"PoliteGatherer$Ranking", "standsBefore", "(II)Z"⟩, 8), (⟨"PoliteGathererModel", "isPage", "(I)Z"⟩, 37), (⟨"PoliteGathererModel", "taken", "(II)I"⟩, 37), (⟨"PoliteGathererModel", "queue", "(II)V"⟩, 37), (⟨"PoliteGathererModel", "mark", "()V"⟩, 37)]
theorem lw_r1 : ∀ q ∈ lw_privs_1, lw_okq q := List.forall_mem_cons.mpr ⟨lw_p0, List.forall_mem_cons.mpr ⟨lw_p1, List.forall_mem_cons.mpr ⟨lw_p2, List.forall_mem_cons.mpr ⟨lw_p3, List.forall_mem_cons.mpr ⟨lw_p4, List.forall_mem_cons.mpr ⟨lw_p5, List.forall_mem_cons.mpr ⟨lw_p6, List.forall_mem_cons.mpr ⟨lw_p7, List.forall_mem_cons.mpr ⟨lw_p8, List.forall_mem_cons.mpr ⟨lw_p9, List.forall_mem_cons.mpr ⟨lw_p10, List.forall_mem_cons.mpr ⟨lw_p11, List.forall_mem_cons.mpr ⟨lw_p12, List.forall_mem_cons.mpr ⟨lw_p13, List.forall_mem_cons.mpr ⟨lw_p14, List.forall_mem_cons.mpr ⟨lw_p15, fun _ h => absurd h List.not_mem_nil⟩⟩⟩⟩⟩⟩⟩⟩⟩⟩⟩⟩⟩⟩⟩⟩
theorem lw_p16 : lw_okq (⟨"PoliteGathererModel", "handle", "()V"⟩, 37) := ⟨⟨by decide +kernel, by decide +kernel⟩, List.mem_of_getElem? (i := 495) (by decide +kernel), List.mem_of_getElem? (i := 674) (by decide +kernel), List.mem_of_getElem? (i := 675) (by decide +kernel)⟩
theorem lw_p17 : lw_okq (⟨"PoliteGathererModel", "chase", "(IZ)I"⟩, 37) := ⟨⟨by decide +kernel, by decide +kernel⟩, List.mem_of_getElem? (i := 495) (by decide +kernel), List.mem_of_getElem? (i := 678) (by decide +kernel), List.mem_of_getElem? (i := 679) (by decide +kernel)⟩
theorem lw_p18 : lw_okq (⟨"PoliteGathererModel", "fetch", "(I)V"⟩, 37) := ⟨⟨by decide +kernel, by decide +kernel⟩, List.mem_of_getElem? (i := 495) (by decide +kernel), List.mem_of_getElem? (i := 683) (by decide +kernel), List.mem_of_getElem? (i := 684) (by decide +kernel)⟩
theorem lw_p19 : lw_okq (⟨"PoliteGathererModel", "isFetched", "(I)Z"⟩, 37) := ⟨⟨by decide +kernel, by decide +kernel⟩, List.mem_of_getElem? (i := 495) (by decide +kernel), List.mem_of_getElem? (i := 687) (by decide +kernel), List.mem_of_getElem? (i := 688) (by decide +kernel)⟩
theorem lw_p20 : lw_okq (⟨"PoliteGathererModel", "placeInCorpus", "(I)I"⟩, 37) := ⟨⟨by decide +kernel, by decide +kernel⟩, List.mem_of_getElem? (i := 495) (by decide +kernel), List.mem_of_getElem? (i := 691) (by decide +kernel), List.mem_of_getElem? (i := 692) (by decide +kernel)⟩
theorem lw_p21 : lw_okq (⟨"PoliteGathererModel", "sameBody", "(II)Z"⟩, 37) := ⟨⟨by decide +kernel, by decide +kernel⟩, List.mem_of_getElem? (i := 495) (by decide +kernel), List.mem_of_getElem? (i := 723) (by decide +kernel), List.mem_of_getElem? (i := 724) (by decide +kernel)⟩
theorem lw_p22 : lw_okq (⟨"PoliteGathererModel", "isDocument", "(I)Z"⟩, 37) := ⟨⟨by decide +kernel, by decide +kernel⟩, List.mem_of_getElem? (i := 495) (by decide +kernel), List.mem_of_getElem? (i := 731) (by decide +kernel), List.mem_of_getElem? (i := 732) (by decide +kernel)⟩
theorem lw_p23 : lw_okq (⟨"PoliteGathererModel", "rankAll", "(I)V"⟩, 37) := ⟨⟨by decide +kernel, by decide +kernel⟩, List.mem_of_getElem? (i := 495) (by decide +kernel), List.mem_of_getElem? (i := 736) (by decide +kernel), List.mem_of_getElem? (i := 737) (by decide +kernel)⟩
theorem lw_p24 : lw_okq (⟨"PoliteGathererModel", "sum", "(I)J"⟩, 37) := ⟨⟨by decide +kernel, by decide +kernel⟩, List.mem_of_getElem? (i := 495) (by decide +kernel), List.mem_of_getElem? (i := 743) (by decide +kernel), List.mem_of_getElem? (i := 744) (by decide +kernel)⟩
theorem lw_p25 : lw_okq (⟨"PoliteGathererModel", "score", "(III)J"⟩, 37) := ⟨⟨by decide +kernel, by decide +kernel⟩, List.mem_of_getElem? (i := 495) (by decide +kernel), List.mem_of_getElem? (i := 752) (by decide +kernel), List.mem_of_getElem? (i := 753) (by decide +kernel)⟩
theorem lw_p26 : lw_okq (⟨"PoliteGathererModel", "comesBefore", "(IIII)Z"⟩, 37) := ⟨⟨by decide +kernel, by decide +kernel⟩, List.mem_of_getElem? (i := 495) (by decide +kernel), List.mem_of_getElem? (i := 756) (by decide +kernel), List.mem_of_getElem? (i := 757) (by decide +kernel)⟩
def lw_privs_2 : List (MethodName × Nat) := [(⟨"PoliteGathererModel", "handle", "()V"⟩, 37), (⟨"PoliteGathererModel", "chase", "(IZ)I"⟩, 37), (⟨"PoliteGathererModel", "fetch", "(I)V"⟩, 37), (⟨"PoliteGathererModel", "isFetched", "(I)Z"⟩, 37), (⟨"PoliteGathererModel", "placeInCorpus", "(I)I"⟩, 37), (⟨"PoliteGathererModel", "sameBody", "(II)Z"⟩, 37), (⟨"PoliteGathererModel", "isDocument", "(I)Z"⟩, 37), (⟨"PoliteGathererModel", "rankAll", "(I)V"⟩, 37), (⟨"PoliteGathererModel", "sum", "(I)J"⟩, 37), (⟨"PoliteGathererModel", "score", "(III)J"⟩, 37), (⟨"PoliteGathererModel", "comesBefore", "(IIII)Z"⟩, 37)]
theorem lw_r2 : ∀ q ∈ lw_privs_2, lw_okq q := List.forall_mem_cons.mpr ⟨lw_p16, List.forall_mem_cons.mpr ⟨lw_p17, List.forall_mem_cons.mpr ⟨lw_p18, List.forall_mem_cons.mpr ⟨lw_p19, List.forall_mem_cons.mpr ⟨lw_p20, List.forall_mem_cons.mpr ⟨lw_p21, List.forall_mem_cons.mpr ⟨lw_p22, List.forall_mem_cons.mpr ⟨lw_p23, List.forall_mem_cons.mpr ⟨lw_p24, List.forall_mem_cons.mpr ⟨lw_p25, List.forall_mem_cons.mpr ⟨lw_p26, fun _ h => absurd h List.not_mem_nil⟩⟩⟩⟩⟩⟩⟩⟩⟩⟩⟩
def lw_privs : List (MethodName × Nat) := lw_privs_1 ++ (lw_privs_2)
def lw_tbl : List Cond := k2_sels lw_privs ++ tables_1
theorem lw_privs_ok : ∀ q ∈ lw_privs, lw_okq q := by
  show ∀ q ∈ lw_privs_1 ++ (lw_privs_2), lw_okq q
  exact List.forall_mem_append.mpr ⟨lw_r1, lw_r2⟩
end
section
/-! Names: classes, field tables, methods. -/
def R_PG : String := "PoliteGatherer"
def F_PG : u_T := fun k => match k with
  | 0 => ("PoliteGatherer", "web", "LPoliteGatherer$Web;", true)
  | 1 => ("PoliteGatherer", "gathering", "LPoliteGatherer$Gathering;", true)
  | 2 => ("PoliteGatherer", "ranking", "LPoliteGatherer$Ranking;", true)
  | _ => ("PoliteGatherer", "underWay", "Z", false)
def t_PG : Nat → FieldType := fun k => match k with
  | 0 => .object "PoliteGatherer$Web"
  | 1 => .object "PoliteGatherer$Gathering"
  | 2 => .object "PoliteGatherer$Ranking"
  | _ => .boolean
theorem n_PG : ∀ a, a < 4 → ∀ b, b < 4 → a ≠ b → (F_PG a).2.1 ≠ (F_PG b).2.1 := by decide +kernel
theorem t_PG_ok : ∀ k, k < 4 → parseFieldDescriptor (F_PG k).2.2.1 = some (t_PG k) := by decide +kernel
def R_Web : String := "PoliteGatherer$Web"
def F_Web : u_T := fun k => match k with
  | 0 => ("PoliteGatherer$Web", "pages", "[LPoliteGatherer$Page;", true)
  | 1 => ("PoliteGatherer$Web", "hosts", "[LPoliteGatherer$Host;", true)
  | 2 => ("PoliteGatherer$Web", "firsts", "LPoliteGatherer$Row;", true)
  | _ => ("PoliteGatherer$Web", "pageCount", "I", false)
def t_Web : Nat → FieldType := fun k => match k with
  | 0 => .array (.object "PoliteGatherer$Page")
  | 1 => .array (.object "PoliteGatherer$Host")
  | 2 => .object "PoliteGatherer$Row"
  | _ => .int
theorem n_Web : ∀ a, a < 4 → ∀ b, b < 4 → a ≠ b → (F_Web a).2.1 ≠ (F_Web b).2.1 := by decide +kernel
theorem t_Web_ok : ∀ k, k < 4 → parseFieldDescriptor (F_Web k).2.2.1 = some (t_Web k) := by decide +kernel
def R_Host : String := "PoliteGatherer$Host"
def F_Host : u_T := fun k => match k with
  | 0 => ("PoliteGatherer$Host", "prefixes", "[I", true)
  | 1 => ("PoliteGatherer$Host", "allowing", "[Z", true)
  | _ => ("PoliteGatherer$Host", "ruleCount", "I", false)
def t_Host : Nat → FieldType := fun k => match k with
  | 0 => .array .int
  | 1 => .array .boolean
  | _ => .int
theorem n_Host : ∀ a, a < 3 → ∀ b, b < 3 → a ≠ b → (F_Host a).2.1 ≠ (F_Host b).2.1 := by decide +kernel
theorem t_Host_ok : ∀ k, k < 3 → parseFieldDescriptor (F_Host k).2.2.1 = some (t_Host k) := by decide +kernel
def R_Row : String := "PoliteGatherer$Row"
def F_Row : u_T := fun k => match k with
  | 0 => ("PoliteGatherer$Row", "items", "[I", true)
  | _ => ("PoliteGatherer$Row", "size", "I", false)
def t_Row : Nat → FieldType := fun k => match k with
  | 0 => .array .int
  | _ => .int
theorem n_Row : ∀ a, a < 2 → ∀ b, b < 2 → a ≠ b → (F_Row a).2.1 ≠ (F_Row b).2.1 := by decide +kernel
theorem t_Row_ok : ∀ k, k < 2 → parseFieldDescriptor (F_Row k).2.2.1 = some (t_Row k) := by decide +kernel
def R_Page : String := "PoliteGatherer$Page"
def F_Page : u_T := fun k => match k with
  | 0 => ("PoliteGatherer$Page", "host", "I", true)
  | 1 => ("PoliteGatherer$Page", "path", "I", true)
  | 2 => ("PoliteGatherer$Page", "body", "LPoliteGatherer$Row;", true)
  | 3 => ("PoliteGatherer$Page", "links", "LPoliteGatherer$Row;", true)
  | 4 => ("PoliteGatherer$Page", "reply", "LPoliteGatherer$Reply;", false)
  | _ => ("PoliteGatherer$Page", "target", "I", false)
def t_Page : Nat → FieldType := fun k => match k with
  | 0 => .int
  | 1 => .int
  | 2 => .object "PoliteGatherer$Row"
  | 3 => .object "PoliteGatherer$Row"
  | 4 => .object "PoliteGatherer$Reply"
  | _ => .int
theorem n_Page : ∀ a, a < 6 → ∀ b, b < 6 → a ≠ b → (F_Page a).2.1 ≠ (F_Page b).2.1 := by decide +kernel
theorem t_Page_ok : ∀ k, k < 6 → parseFieldDescriptor (F_Page k).2.2.1 = some (t_Page k) := by decide +kernel
def R_Gat : String := "PoliteGatherer$Gathering"
def F_Gat : u_T := fun k => match k with
  | 0 => ("PoliteGatherer$Gathering", "web", "LPoliteGatherer$Web;", true)
  | 1 => ("PoliteGatherer$Gathering", "queued", "LPoliteGatherer$Row;", true)
  | 2 => ("PoliteGatherer$Gathering", "depths", "LPoliteGatherer$Row;", true)
  | 3 => ("PoliteGatherer$Gathering", "fetched", "LPoliteGatherer$Row;", true)
  | 4 => ("PoliteGatherer$Gathering", "corpus", "LPoliteGatherer$Row;", true)
  | 5 => ("PoliteGatherer$Gathering", "from", "[I", true)
  | 6 => ("PoliteGatherer$Gathering", "limit", "I", false)
  | 7 => ("PoliteGatherer$Gathering", "hops", "I", false)
  | 8 => ("PoliteGatherer$Gathering", "delay", "I", false)
  | 9 => ("PoliteGatherer$Gathering", "every", "I", false)
  | 10 => ("PoliteGatherer$Gathering", "handled", "I", false)
  | 11 => ("PoliteGatherer$Gathering", "now", "I", false)
  | 12 => ("PoliteGatherer$Gathering", "fetchCount", "I", false)
  | 13 => ("PoliteGatherer$Gathering", "handledAtMark", "I", false)
  | 14 => ("PoliteGatherer$Gathering", "queuedAtMark", "I", false)
  | 15 => ("PoliteGatherer$Gathering", "fetchedAtMark", "I", false)
  | _ => ("PoliteGatherer$Gathering", "corpusAtMark", "I", false)
def t_Gat : Nat → FieldType := fun k => match k with
  | 0 => .object "PoliteGatherer$Web"
  | 1 => .object "PoliteGatherer$Row"
  | 2 => .object "PoliteGatherer$Row"
  | 3 => .object "PoliteGatherer$Row"
  | 4 => .object "PoliteGatherer$Row"
  | 5 => .array .int
  | 6 => .int
  | 7 => .int
  | 8 => .int
  | 9 => .int
  | 10 => .int
  | 11 => .int
  | 12 => .int
  | 13 => .int
  | 14 => .int
  | 15 => .int
  | _ => .int
theorem n_Gat : ∀ a, a < 17 → ∀ b, b < 17 → a ≠ b → (F_Gat a).2.1 ≠ (F_Gat b).2.1 := by decide +kernel
theorem t_Gat_ok : ∀ k, k < 17 → parseFieldDescriptor (F_Gat k).2.2.1 = some (t_Gat k) := by decide +kernel
def R_Rank : String := "PoliteGatherer$Ranking"
def F_Rank : u_T := fun k => match k with
  | 0 => ("PoliteGatherer$Ranking", "web", "LPoliteGatherer$Web;", true)
  | 1 => ("PoliteGatherer$Ranking", "gathering", "LPoliteGatherer$Gathering;", true)
  | 2 => ("PoliteGatherer$Ranking", "documents", "LPoliteGatherer$Row;", true)
  | 3 => ("PoliteGatherer$Ranking", "leads", "[[I", true)
  | 4 => ("PoliteGatherer$Ranking", "leading", "[I", true)
  | 5 => ("PoliteGatherer$Ranking", "ranks", "[J", true)
  | 6 => ("PoliteGatherer$Ranking", "sums", "[J", true)
  | _ => ("PoliteGatherer$Ranking", "scores", "[J", true)
def t_Rank : Nat → FieldType := fun k => match k with
  | 0 => .object "PoliteGatherer$Web"
  | 1 => .object "PoliteGatherer$Gathering"
  | 2 => .object "PoliteGatherer$Row"
  | 3 => .array (.array .int)
  | 4 => .array .int
  | 5 => .array .long
  | 6 => .array .long
  | _ => .array .long
theorem n_Rank : ∀ a, a < 8 → ∀ b, b < 8 → a ≠ b → (F_Rank a).2.1 ≠ (F_Rank b).2.1 := by decide +kernel
theorem t_Rank_ok : ∀ k, k < 8 → parseFieldDescriptor (F_Rank k).2.2.1 = some (t_Rank k) := by decide +kernel
def R_Mod : String := "PoliteGathererModel"
def F_Mod : u_T := fun k => match k with
  | 0 => ("PoliteGathererModel", "pages", "I", false)
  | 1 => ("PoliteGathererModel", "host", "[I", true)
  | 2 => ("PoliteGathererModel", "path", "[I", true)
  | 3 => ("PoliteGathererModel", "reply", "[I", true)
  | 4 => ("PoliteGathererModel", "words", "[I", true)
  | 5 => ("PoliteGathererModel", "wordCount", "[I", true)
  | 6 => ("PoliteGathererModel", "goes", "[I", true)
  | 7 => ("PoliteGathererModel", "linkCount", "[I", true)
  | 8 => ("PoliteGathererModel", "prefixes", "[I", true)
  | 9 => ("PoliteGathererModel", "allowing", "[Z", true)
  | 10 => ("PoliteGathererModel", "ruleCount", "[I", true)
  | 11 => ("PoliteGathererModel", "starts", "[I", true)
  | 12 => ("PoliteGathererModel", "startCount", "I", false)
  | 13 => ("PoliteGathererModel", "on", "Z", false)
  | 14 => ("PoliteGathererModel", "limit", "I", false)
  | 15 => ("PoliteGathererModel", "hops", "I", false)
  | 16 => ("PoliteGathererModel", "delay", "I", false)
  | 17 => ("PoliteGathererModel", "every", "I", false)
  | 18 => ("PoliteGathererModel", "entryPage", "[I", true)
  | 19 => ("PoliteGathererModel", "entryDepth", "[I", true)
  | 20 => ("PoliteGathererModel", "head", "I", false)
  | 21 => ("PoliteGathererModel", "queued", "I", false)
  | 22 => ("PoliteGathererModel", "fetchedPages", "[I", true)
  | 23 => ("PoliteGathererModel", "fetched", "I", false)
  | 24 => ("PoliteGathererModel", "corpus", "[I", true)
  | 25 => ("PoliteGathererModel", "gathered", "I", false)
  | 26 => ("PoliteGathererModel", "now", "I", false)
  | 27 => ("PoliteGathererModel", "from", "[I", true)
  | 28 => ("PoliteGathererModel", "total", "I", false)
  | 29 => ("PoliteGathererModel", "markHead", "I", false)
  | 30 => ("PoliteGathererModel", "markQueued", "I", false)
  | 31 => ("PoliteGathererModel", "markFetched", "I", false)
  | 32 => ("PoliteGathererModel", "markGathered", "I", false)
  | 33 => ("PoliteGathererModel", "since", "I", false)
  | 34 => ("PoliteGathererModel", "leads", "[I", true)
  | 35 => ("PoliteGathererModel", "ranks", "[J", true)
  | _ => ("PoliteGathererModel", "before", "[J", true)
def t_Mod : Nat → FieldType := fun k => match k with
  | 0 => .int
  | 1 => .array .int
  | 2 => .array .int
  | 3 => .array .int
  | 4 => .array .int
  | 5 => .array .int
  | 6 => .array .int
  | 7 => .array .int
  | 8 => .array .int
  | 9 => .array .boolean
  | 10 => .array .int
  | 11 => .array .int
  | 12 => .int
  | 13 => .boolean
  | 14 => .int
  | 15 => .int
  | 16 => .int
  | 17 => .int
  | 18 => .array .int
  | 19 => .array .int
  | 20 => .int
  | 21 => .int
  | 22 => .array .int
  | 23 => .int
  | 24 => .array .int
  | 25 => .int
  | 26 => .int
  | 27 => .array .int
  | 28 => .int
  | 29 => .int
  | 30 => .int
  | 31 => .int
  | 32 => .int
  | 33 => .int
  | 34 => .array .int
  | 35 => .array .long
  | _ => .array .long
theorem n_Mod : ∀ a, a < 37 → ∀ b, b < 37 → a ≠ b → (F_Mod a).2.1 ≠ (F_Mod b).2.1 := by decide +kernel
theorem t_Mod_ok : ∀ k, k < 37 → parseFieldDescriptor (F_Mod k).2.2.1 = some (t_Mod k) := by decide +kernel
def R_Reply : String := "PoliteGatherer$Reply"
def gRd : String := "LPoliteGatherer$Reply;"
abbrev gcl : List vw_C := [(R_PG, F_PG, 4), (R_Web, F_Web, 4), (R_Host, F_Host, 3), (R_Row, F_Row, 2), (R_Page, F_Page, 6), (R_Gat, F_Gat, 17), (R_Rank, F_Rank, 8), (R_Mod, F_Mod, 37)]
abbrev b_PG_init : ByteArray := prog_1_method_1_code
def y_PG_init : MethodName := ⟨R_PG, "<init>", "()V"⟩
abbrev b_PG_page : ByteArray := prog_1_method_2_code
def y_PG_page : MethodName := ⟨R_PG, "page", "(II)I"⟩
abbrev b_PG_write : ByteArray := prog_1_method_3_code
def y_PG_write : MethodName := ⟨R_PG, "write", "(II)Z"⟩
abbrev b_PG_link : ByteArray := prog_1_method_4_code
def y_PG_link : MethodName := ⟨R_PG, "link", "(II)Z"⟩
abbrev b_PG_move : ByteArray := prog_1_method_5_code
def y_PG_move : MethodName := ⟨R_PG, "move", "(II)Z"⟩
abbrev b_PG_drop : ByteArray := prog_1_method_6_code
def y_PG_drop : MethodName := ⟨R_PG, "drop", "(I)Z"⟩
abbrev b_PG_rule : ByteArray := prog_1_method_7_code
def y_PG_rule : MethodName := ⟨R_PG, "rule", "(IIZ)Z"⟩
abbrev b_PG_first : ByteArray := prog_1_method_8_code
def y_PG_first : MethodName := ⟨R_PG, "first", "(I)Z"⟩
abbrev b_PG_begin : ByteArray := prog_1_method_9_code
def y_PG_begin : MethodName := ⟨R_PG, "begin", "(IIII)Z"⟩
abbrev b_PG_stop : ByteArray := prog_1_method_10_code
def y_PG_stop : MethodName := ⟨R_PG, "stop", "()Z"⟩
abbrev b_PG_work : ByteArray := prog_1_method_11_code
def y_PG_work : MethodName := ⟨R_PG, "work", "(I)I"⟩
abbrev b_PG_crash : ByteArray := prog_1_method_12_code
def y_PG_crash : MethodName := ⟨R_PG, "crash", "()I"⟩
abbrev b_PG_allowed : ByteArray := prog_1_method_13_code
def y_PG_allowed : MethodName := ⟨R_PG, "allowed", "(I)Z"⟩
abbrev b_PG_found : ByteArray := prog_1_method_14_code
def y_PG_found : MethodName := ⟨R_PG, "found", "(I)I"⟩
abbrev b_PG_clock : ByteArray := prog_1_method_15_code
def y_PG_clock : MethodName := ⟨R_PG, "clock", "()I"⟩
abbrev b_PG_fetches : ByteArray := prog_1_method_16_code
def y_PG_fetches : MethodName := ⟨R_PG, "fetches", "()I"⟩
abbrev b_PG_waiting : ByteArray := prog_1_method_17_code
def y_PG_waiting : MethodName := ⟨R_PG, "waiting", "()I"⟩
abbrev b_PG_corpusAt : ByteArray := prog_1_method_18_code
def y_PG_corpusAt : MethodName := ⟨R_PG, "corpusAt", "(I)I"⟩
abbrev b_PG_document : ByteArray := prog_1_method_19_code
def y_PG_document : MethodName := ⟨R_PG, "document", "(I)I"⟩
abbrev b_PG_rank : ByteArray := prog_1_method_20_code
def y_PG_rank : MethodName := ⟨R_PG, "rank", "(II)J"⟩
abbrev b_PG_best : ByteArray := prog_1_method_21_code
def y_PG_best : MethodName := ⟨R_PG, "best", "(III)I"⟩
abbrev b_PG_canChange : ByteArray := prog_1_method_22_code
def y_PG_canChange : MethodName := ⟨R_PG, "canChange", "(I)Z"⟩
abbrev b_PG_isWithin : ByteArray := prog_1_method_23_code
def y_PG_isWithin : MethodName := ⟨R_PG, "isWithin", "(III)Z"⟩
abbrev b_PG_isHost : ByteArray := prog_1_method_24_code
def y_PG_isHost : MethodName := ⟨R_PG, "isHost", "(I)Z"⟩
abbrev b_Web_init : ByteArray := prog_8_method_1_code
def y_Web_init : MethodName := ⟨R_Web, "<init>", "()V"⟩
abbrev b_Web_isPage : ByteArray := prog_8_method_2_code
def y_Web_isPage : MethodName := ⟨R_Web, "isPage", "(I)Z"⟩
abbrev b_Web_addPage : ByteArray := prog_8_method_3_code
def y_Web_addPage : MethodName := ⟨R_Web, "addPage", "(II)I"⟩
abbrev b_Web_isTaken : ByteArray := prog_8_method_4_code
def y_Web_isTaken : MethodName := ⟨R_Web, "isTaken", "(II)Z"⟩
abbrev b_Web_isAllowed : ByteArray := prog_8_method_5_code
def y_Web_isAllowed : MethodName := ⟨R_Web, "isAllowed", "(I)Z"⟩
abbrev b_Host_init : ByteArray := prog_3_method_1_code
def y_Host_init : MethodName := ⟨R_Host, "<init>", "()V"⟩
abbrev b_Host_addRule : ByteArray := prog_3_method_2_code
def y_Host_addRule : MethodName := ⟨R_Host, "addRule", "(IZ)Z"⟩
abbrev b_Host_allowsPath : ByteArray := prog_3_method_3_code
def y_Host_allowsPath : MethodName := ⟨R_Host, "allowsPath", "(I)Z"⟩
abbrev b_Host_isPrefix : ByteArray := prog_3_method_4_code
def y_Host_isPrefix : MethodName := ⟨R_Host, "isPrefix", "(II)Z"⟩
abbrev b_Row_init : ByteArray := prog_7_method_1_code
def y_Row_init : MethodName := ⟨R_Row, "<init>", "(I)V"⟩
abbrev b_Row_add : ByteArray := prog_7_method_2_code
def y_Row_add : MethodName := ⟨R_Row, "add", "(I)Z"⟩
abbrev b_Row_at : ByteArray := prog_7_method_3_code
def y_Row_at : MethodName := ⟨R_Row, "at", "(I)I"⟩
abbrev b_Row_holds : ByteArray := prog_7_method_4_code
def y_Row_holds : MethodName := ⟨R_Row, "holds", "(I)Z"⟩
abbrev b_Row_sameAs : ByteArray := prog_7_method_5_code
def y_Row_sameAs : MethodName := ⟨R_Row, "sameAs", "(LPoliteGatherer$Row;)Z"⟩
abbrev b_Row_cutTo : ByteArray := prog_7_method_6_code
def y_Row_cutTo : MethodName := ⟨R_Row, "cutTo", "(I)V"⟩
abbrev b_Page_init : ByteArray := prog_4_method_1_code
def y_Page_init : MethodName := ⟨R_Page, "<init>", "(II)V"⟩
abbrev b_Page_comesBefore : ByteArray := prog_4_method_2_code
def y_Page_comesBefore : MethodName := ⟨R_Page, "comesBefore", "(LPoliteGatherer$Page;)Z"⟩
abbrev b_Page_placesOf : ByteArray := prog_4_method_3_code
def y_Page_placesOf : MethodName := ⟨R_Page, "placesOf", "(II)I"⟩
abbrev b_Gat_init : ByteArray := prog_2_method_1_code
def y_Gat_init : MethodName := ⟨R_Gat, "<init>", "(LPoliteGatherer$Web;)V"⟩
abbrev b_Gat_startAnew : ByteArray := prog_2_method_2_code
def y_Gat_startAnew : MethodName := ⟨R_Gat, "startAnew", "(IIII)V"⟩
abbrev b_Gat_entriesLeft : ByteArray := prog_2_method_3_code
def y_Gat_entriesLeft : MethodName := ⟨R_Gat, "entriesLeft", "()I"⟩
abbrev b_Gat_handleEntry : ByteArray := prog_2_method_4_code
def y_Gat_handleEntry : MethodName := ⟨R_Gat, "handleEntry", "()V"⟩
abbrev b_Gat_chase : ByteArray := prog_2_method_5_code
def y_Gat_chase : MethodName := ⟨R_Gat, "chase", "(IZ)I"⟩
abbrev b_Gat_fallBack : ByteArray := prog_2_method_6_code
def y_Gat_fallBack : MethodName := ⟨R_Gat, "fallBack", "()I"⟩
abbrev b_Gat_fetch : ByteArray := prog_2_method_7_code
def y_Gat_fetch : MethodName := ⟨R_Gat, "fetch", "(I)V"⟩
abbrev b_Gat_enqueueAll : ByteArray := prog_2_method_8_code
def y_Gat_enqueueAll : MethodName := ⟨R_Gat, "enqueueAll", "(LPoliteGatherer$Row;I)V"⟩
abbrev b_Gat_setAllFrom : ByteArray := prog_2_method_9_code
def y_Gat_setAllFrom : MethodName := ⟨R_Gat, "setAllFrom", "(I)V"⟩
abbrev b_Gat_setMark : ByteArray := prog_2_method_10_code
def y_Gat_setMark : MethodName := ⟨R_Gat, "setMark", "()V"⟩
abbrev b_Rank_init : ByteArray := prog_5_method_1_code
def y_Rank_init : MethodName := ⟨R_Rank, "<init>", "(LPoliteGatherer$Web;LPoliteGatherer$Gathering;)V"⟩
abbrev b_Rank_documentOf : ByteArray := prog_5_method_2_code
def y_Rank_documentOf : MethodName := ⟨R_Rank, "documentOf", "(I)I"⟩
abbrev b_Rank_isDocument : ByteArray := prog_5_method_3_code
def y_Rank_isDocument : MethodName := ⟨R_Rank, "isDocument", "(I)Z"⟩
abbrev b_Rank_computeRanks : ByteArray := prog_5_method_4_code
def y_Rank_computeRanks : MethodName := ⟨R_Rank, "computeRanks", "(I)V"⟩
abbrev b_Rank_computeScores : ByteArray := prog_5_method_5_code
def y_Rank_computeScores : MethodName := ⟨R_Rank, "computeScores", "(II)V"⟩
abbrev b_Rank_documentAtPlace : ByteArray := prog_5_method_6_code
def y_Rank_documentAtPlace : MethodName := ⟨R_Rank, "documentAtPlace", "(I)I"⟩
abbrev b_Rank_listDocuments : ByteArray := prog_5_method_7_code
def y_Rank_listDocuments : MethodName := ⟨R_Rank, "listDocuments", "()V"⟩
abbrev b_Rank_followLinks : ByteArray := prog_5_method_8_code
def y_Rank_followLinks : MethodName := ⟨R_Rank, "followLinks", "(I)V"⟩
abbrev b_Rank_playRound : ByteArray := prog_5_method_9_code
def y_Rank_playRound : MethodName := ⟨R_Rank, "playRound", "()V"⟩
abbrev b_Rank_passOn : ByteArray := prog_5_method_10_code
def y_Rank_passOn : MethodName := ⟨R_Rank, "passOn", "(I)V"⟩
abbrev b_Rank_placeOf : ByteArray := prog_5_method_11_code
def y_Rank_placeOf : MethodName := ⟨R_Rank, "placeOf", "(I)I"⟩
abbrev b_Rank_standsBefore : ByteArray := prog_5_method_12_code
def y_Rank_standsBefore : MethodName := ⟨R_Rank, "standsBefore", "(II)Z"⟩
abbrev b_Mod_init : ByteArray := prog_10_method_1_code
def y_Mod_init : MethodName := ⟨R_Mod, "<init>", "()V"⟩
abbrev b_Mod_isPage : ByteArray := prog_10_method_2_code
def y_Mod_isPage : MethodName := ⟨R_Mod, "isPage", "(I)Z"⟩
abbrev b_Mod_page : ByteArray := prog_10_method_3_code
def y_Mod_page : MethodName := ⟨R_Mod, "page", "(II)I"⟩
abbrev b_Mod_write : ByteArray := prog_10_method_4_code
def y_Mod_write : MethodName := ⟨R_Mod, "write", "(II)Z"⟩
abbrev b_Mod_link : ByteArray := prog_10_method_5_code
def y_Mod_link : MethodName := ⟨R_Mod, "link", "(II)Z"⟩
abbrev b_Mod_move : ByteArray := prog_10_method_6_code
def y_Mod_move : MethodName := ⟨R_Mod, "move", "(II)Z"⟩
abbrev b_Mod_drop : ByteArray := prog_10_method_7_code
def y_Mod_drop : MethodName := ⟨R_Mod, "drop", "(I)Z"⟩
abbrev b_Mod_rule : ByteArray := prog_10_method_8_code
def y_Mod_rule : MethodName := ⟨R_Mod, "rule", "(IIZ)Z"⟩
abbrev b_Mod_first : ByteArray := prog_10_method_9_code
def y_Mod_first : MethodName := ⟨R_Mod, "first", "(I)Z"⟩
abbrev b_Mod_taken : ByteArray := prog_10_method_10_code
def y_Mod_taken : MethodName := ⟨R_Mod, "taken", "(II)I"⟩
abbrev b_Mod_allowed : ByteArray := prog_10_method_11_code
def y_Mod_allowed : MethodName := ⟨R_Mod, "allowed", "(I)Z"⟩
abbrev b_Mod_isFetched : ByteArray := prog_10_method_12_code
def y_Mod_isFetched : MethodName := ⟨R_Mod, "isFetched", "(I)Z"⟩
abbrev b_Mod_fetch : ByteArray := prog_10_method_13_code
def y_Mod_fetch : MethodName := ⟨R_Mod, "fetch", "(I)V"⟩
abbrev b_Mod_chase : ByteArray := prog_10_method_14_code
def y_Mod_chase : MethodName := ⟨R_Mod, "chase", "(IZ)I"⟩
abbrev b_Mod_placeInCorpus : ByteArray := prog_10_method_15_code
def y_Mod_placeInCorpus : MethodName := ⟨R_Mod, "placeInCorpus", "(I)I"⟩
abbrev b_Mod_queue : ByteArray := prog_10_method_16_code
def y_Mod_queue : MethodName := ⟨R_Mod, "queue", "(II)V"⟩
abbrev b_Mod_handle : ByteArray := prog_10_method_17_code
def y_Mod_handle : MethodName := ⟨R_Mod, "handle", "()V"⟩
abbrev b_Mod_mark : ByteArray := prog_10_method_18_code
def y_Mod_mark : MethodName := ⟨R_Mod, "mark", "()V"⟩
abbrev b_Mod_begin : ByteArray := prog_10_method_19_code
def y_Mod_begin : MethodName := ⟨R_Mod, "begin", "(IIII)Z"⟩
abbrev b_Mod_stop : ByteArray := prog_10_method_20_code
def y_Mod_stop : MethodName := ⟨R_Mod, "stop", "()Z"⟩
abbrev b_Mod_work : ByteArray := prog_10_method_21_code
def y_Mod_work : MethodName := ⟨R_Mod, "work", "(I)I"⟩
abbrev b_Mod_crash : ByteArray := prog_10_method_22_code
def y_Mod_crash : MethodName := ⟨R_Mod, "crash", "()I"⟩
abbrev b_Mod_found : ByteArray := prog_10_method_23_code
def y_Mod_found : MethodName := ⟨R_Mod, "found", "(I)I"⟩
abbrev b_Mod_clock : ByteArray := prog_10_method_24_code
def y_Mod_clock : MethodName := ⟨R_Mod, "clock", "()I"⟩
abbrev b_Mod_fetches : ByteArray := prog_10_method_25_code
def y_Mod_fetches : MethodName := ⟨R_Mod, "fetches", "()I"⟩
abbrev b_Mod_waiting : ByteArray := prog_10_method_26_code
def y_Mod_waiting : MethodName := ⟨R_Mod, "waiting", "()I"⟩
abbrev b_Mod_corpusAt : ByteArray := prog_10_method_27_code
def y_Mod_corpusAt : MethodName := ⟨R_Mod, "corpusAt", "(I)I"⟩
abbrev b_Mod_sameBody : ByteArray := prog_10_method_28_code
def y_Mod_sameBody : MethodName := ⟨R_Mod, "sameBody", "(II)Z"⟩
abbrev b_Mod_document : ByteArray := prog_10_method_29_code
def y_Mod_document : MethodName := ⟨R_Mod, "document", "(I)I"⟩
abbrev b_Mod_isDocument : ByteArray := prog_10_method_30_code
def y_Mod_isDocument : MethodName := ⟨R_Mod, "isDocument", "(I)Z"⟩
abbrev b_Mod_rankAll : ByteArray := prog_10_method_31_code
def y_Mod_rankAll : MethodName := ⟨R_Mod, "rankAll", "(I)V"⟩
abbrev b_Mod_sum : ByteArray := prog_10_method_32_code
def y_Mod_sum : MethodName := ⟨R_Mod, "sum", "(I)J"⟩
abbrev b_Mod_rank : ByteArray := prog_10_method_33_code
def y_Mod_rank : MethodName := ⟨R_Mod, "rank", "(II)J"⟩
abbrev b_Mod_score : ByteArray := prog_10_method_34_code
def y_Mod_score : MethodName := ⟨R_Mod, "score", "(III)J"⟩
abbrev b_Mod_comesBefore : ByteArray := prog_10_method_35_code
def y_Mod_comesBefore : MethodName := ⟨R_Mod, "comesBefore", "(IIII)Z"⟩
abbrev b_Mod_best : ByteArray := prog_10_method_36_code
def y_Mod_best : MethodName := ⟨R_Mod, "best", "(III)I"⟩
end
section
/-! Words: each one among the tables. -/
theorem qr1 {w : Cond} (h : w ∈ tables_1_1) : w ∈ tables_1 := List.mem_append_left _ h
theorem qr2 {w : Cond} (h : w ∈ tables_1_2) : w ∈ tables_1 := List.mem_append_right _ (List.mem_append_left _ h)
theorem qr3 {w : Cond} (h : w ∈ tables_1_3) : w ∈ tables_1 := List.mem_append_right _ (List.mem_append_right _ (List.mem_append_left _ h))
theorem qr4 {w : Cond} (h : w ∈ tables_1_4) : w ∈ tables_1 := List.mem_append_right _ (List.mem_append_right _ (List.mem_append_right _ h))
theorem q0 : Jvm.Cond.initialized "PoliteGathererLaw" ∈ tables_1 := qr1 (List.mem_of_getElem? (i := 0) rfl)
theorem q1 : Jvm.Cond.initialized "PoliteGatherer" ∈ tables_1 := qr1 (List.mem_of_getElem? (i := 1) rfl)
theorem q2 : Jvm.Cond.initialized "PoliteGatherer$Web" ∈ tables_1 := qr1 (List.mem_of_getElem? (i := 2) rfl)
theorem q3 : Jvm.Cond.initialized "PoliteGatherer$Host" ∈ tables_1 := qr1 (List.mem_of_getElem? (i := 3) rfl)
theorem q4 : Jvm.Cond.initialized "PoliteGatherer$Row" ∈ tables_1 := qr1 (List.mem_of_getElem? (i := 4) rfl)
theorem q5 : Jvm.Cond.initialized "PoliteGatherer$Gathering" ∈ tables_1 := qr1 (List.mem_of_getElem? (i := 5) rfl)
theorem q6 : Jvm.Cond.initialized "PoliteGatherer$Ranking" ∈ tables_1 := qr1 (List.mem_of_getElem? (i := 6) rfl)
theorem q7 : Jvm.Cond.initialized "PoliteGathererModel" ∈ tables_1 := qr1 (List.mem_of_getElem? (i := 7) rfl)
theorem q8 : Jvm.Cond.initialized "PoliteGatherer$Page" ∈ tables_1 := qr1 (List.mem_of_getElem? (i := 8) rfl)
theorem q9 : Jvm.Cond.initialized "java/lang/Enum" ∈ tables_1 := qr1 (List.mem_of_getElem? (i := 9) rfl)
theorem q10 : Jvm.Cond.initialized "PoliteGatherer$Reply" ∈ tables_1 := qr1 (List.mem_of_getElem? (i := 10) rfl)
theorem q11 : Jvm.Cond.initialized "java/lang/Math" ∈ tables_1 := qr1 (List.mem_of_getElem? (i := 11) rfl)
theorem q12 : Jvm.Cond.classLink "PoliteGathererLaw" (7 : Nat) "PoliteGatherer" ∈ tables_1 := qr1 (List.mem_of_getElem? (i := 12) rfl)
theorem q13 : Jvm.Cond.instantiable "PoliteGatherer" (4 : Nat) ∈ tables_1 := qr1 (List.mem_of_getElem? (i := 13) rfl)
theorem q14 : Jvm.Cond.methodLink "PoliteGathererLaw" (9 : Nat) ({ cls := "PoliteGatherer", name := "<init>", desc := "()V" } : Jvm.MethodName) ∈ tables_1 := qr1 (List.mem_of_getElem? (i := 14) rfl)
theorem q15 : Jvm.Cond.instanceMethod ({ cls := "PoliteGatherer", name := "<init>", desc := "()V" } : Jvm.MethodName) ∈ tables_1 := qr1 (List.mem_of_getElem? (i := 15) rfl)
theorem q16 : Jvm.Cond.code ({ cls := "PoliteGatherer", name := "<init>", desc := "()V" } : Jvm.MethodName) prog_1_method_1_code (1 : Nat) (Option.none : Option Jvm.ClassFile.FieldType) ∈ tables_1 := qr1 (List.mem_of_getElem? (i := 16) rfl)
theorem q17 : Jvm.Cond.methodLink "PoliteGatherer" (1 : Nat) ({ cls := "java/lang/Object", name := "<init>", desc := "()V" } : Jvm.MethodName) ∈ tables_1 := qr1 (List.mem_of_getElem? (i := 17) rfl)
theorem q18 : Jvm.Cond.instanceMethod ({ cls := "java/lang/Object", name := "<init>", desc := "()V" } : Jvm.MethodName) ∈ tables_1 := qr1 (List.mem_of_getElem? (i := 18) rfl)
theorem q19 : Jvm.Cond.code ({ cls := "java/lang/Object", name := "<init>", desc := "()V" } : Jvm.MethodName) object_method_1_code (1 : Nat) (Option.none : Option Jvm.ClassFile.FieldType) ∈ tables_1 := qr1 (List.mem_of_getElem? (i := 19) rfl)
theorem q20 : Jvm.Cond.classLink "PoliteGatherer" (7 : Nat) "PoliteGatherer$Web" ∈ tables_1 := qr1 (List.mem_of_getElem? (i := 20) rfl)
theorem q21 : Jvm.Cond.instantiable "PoliteGatherer$Web" (4 : Nat) ∈ tables_1 := qr1 (List.mem_of_getElem? (i := 21) rfl)
theorem q22 : Jvm.Cond.methodLink "PoliteGatherer" (9 : Nat) ({ cls := "PoliteGatherer$Web", name := "<init>", desc := "()V" } : Jvm.MethodName) ∈ tables_1 := qr1 (List.mem_of_getElem? (i := 22) rfl)
theorem q23 : Jvm.Cond.instanceMethod ({ cls := "PoliteGatherer$Web", name := "<init>", desc := "()V" } : Jvm.MethodName) ∈ tables_1 := qr1 (List.mem_of_getElem? (i := 23) rfl)
theorem q24 : Jvm.Cond.code ({ cls := "PoliteGatherer$Web", name := "<init>", desc := "()V" } : Jvm.MethodName) prog_8_method_1_code (2 : Nat) (Option.none : Option Jvm.ClassFile.FieldType) ∈ tables_1 := qr1 (List.mem_of_getElem? (i := 24) rfl)
theorem q25 : Jvm.Cond.methodLink "PoliteGatherer$Web" (3 : Nat) ({ cls := "java/lang/Object", name := "<init>", desc := "()V" } : Jvm.MethodName) ∈ tables_1 := qr1 (List.mem_of_getElem? (i := 25) rfl)
theorem q26 : Jvm.Cond.classLink "PoliteGatherer$Web" (9 : Nat) "PoliteGatherer$Page" ∈ tables_1 := qr1 (List.mem_of_getElem? (i := 26) rfl)
theorem q27 : Jvm.Cond.arrayOver (Jvm.ClassFile.FieldType.object "PoliteGatherer$Page") ∈ tables_1 := qr1 (List.mem_of_getElem? (i := 27) rfl)
theorem q28 : Jvm.Cond.classLink "PoliteGatherer$Web" (17 : Nat) "PoliteGatherer$Host" ∈ tables_1 := qr1 (List.mem_of_getElem? (i := 28) rfl)
theorem q29 : Jvm.Cond.arrayOver (Jvm.ClassFile.FieldType.object "PoliteGatherer$Host") ∈ tables_1 := qr1 (List.mem_of_getElem? (i := 29) rfl)
theorem q30 : Jvm.Cond.instantiable "PoliteGatherer$Host" (3 : Nat) ∈ tables_1 := qr1 (List.mem_of_getElem? (i := 30) rfl)
theorem q31 : Jvm.Cond.methodLink "PoliteGatherer$Web" (23 : Nat) ({ cls := "PoliteGatherer$Host", name := "<init>", desc := "()V" } : Jvm.MethodName) ∈ tables_1 := qr1 (List.mem_of_getElem? (i := 31) rfl)
theorem q32 : Jvm.Cond.instanceMethod ({ cls := "PoliteGatherer$Host", name := "<init>", desc := "()V" } : Jvm.MethodName) ∈ tables_1 := qr1 (List.mem_of_getElem? (i := 32) rfl)
theorem q33 : Jvm.Cond.code ({ cls := "PoliteGatherer$Host", name := "<init>", desc := "()V" } : Jvm.MethodName) prog_3_method_1_code (1 : Nat) (Option.none : Option Jvm.ClassFile.FieldType) ∈ tables_1 := qr1 (List.mem_of_getElem? (i := 33) rfl)
theorem q34 : Jvm.Cond.methodLink "PoliteGatherer$Host" (3 : Nat) ({ cls := "java/lang/Object", name := "<init>", desc := "()V" } : Jvm.MethodName) ∈ tables_1 := qr1 (List.mem_of_getElem? (i := 34) rfl)
theorem q35 : Jvm.Cond.fieldLink "PoliteGatherer$Host" (9 : Nat) "PoliteGatherer$Host" "prefixes" "[I" ∈ tables_1 := qr1 (List.mem_of_getElem? (i := 35) rfl)
theorem q36 : Jvm.Cond.fieldLink "PoliteGatherer$Host" (15 : Nat) "PoliteGatherer$Host" "allowing" "[Z" ∈ tables_1 := qr1 (List.mem_of_getElem? (i := 36) rfl)
theorem q37 : Jvm.Cond.fieldLink "PoliteGatherer$Host" (19 : Nat) "PoliteGatherer$Host" "ruleCount" "I" ∈ tables_1 := qr1 (List.mem_of_getElem? (i := 37) rfl)
theorem q38 : Jvm.Cond.laysFinal "PoliteGatherer$Host" "PoliteGatherer$Host" "prefixes" "[I" ∈ tables_1 := qr1 (List.mem_of_getElem? (i := 38) rfl)
theorem q40 : Jvm.Cond.laysFinal "PoliteGatherer$Host" "PoliteGatherer$Host" "allowing" "[Z" ∈ tables_1 := qr1 (List.mem_of_getElem? (i := 40) rfl)
theorem q42 : Jvm.Cond.lays "PoliteGatherer$Host" "PoliteGatherer$Host" "ruleCount" "I" ∈ tables_1 := qr1 (List.mem_of_getElem? (i := 42) rfl)
theorem q45 : Jvm.Cond.arrayClass Jvm.ClassFile.FieldType.int ∈ tables_1 := qr1 (List.mem_of_getElem? (i := 45) rfl)
theorem q46 : Jvm.Cond.arrayClass Jvm.ClassFile.FieldType.boolean ∈ tables_1 := qr1 (List.mem_of_getElem? (i := 46) rfl)
theorem q47 : Jvm.Cond.classLink "PoliteGatherer$Web" (24 : Nat) "PoliteGatherer$Row" ∈ tables_1 := qr1 (List.mem_of_getElem? (i := 47) rfl)
theorem q48 : Jvm.Cond.instantiable "PoliteGatherer$Row" (2 : Nat) ∈ tables_1 := qr1 (List.mem_of_getElem? (i := 48) rfl)
theorem q49 : Jvm.Cond.methodLink "PoliteGatherer$Web" (26 : Nat) ({ cls := "PoliteGatherer$Row", name := "<init>", desc := "(I)V" } : Jvm.MethodName) ∈ tables_1 := qr1 (List.mem_of_getElem? (i := 49) rfl)
theorem q50 : Jvm.Cond.instanceMethod ({ cls := "PoliteGatherer$Row", name := "<init>", desc := "(I)V" } : Jvm.MethodName) ∈ tables_1 := qr1 (List.mem_of_getElem? (i := 50) rfl)
theorem q51 : Jvm.Cond.code ({ cls := "PoliteGatherer$Row", name := "<init>", desc := "(I)V" } : Jvm.MethodName) prog_7_method_1_code (2 : Nat) (Option.none : Option Jvm.ClassFile.FieldType) ∈ tables_1 := qr1 (List.mem_of_getElem? (i := 51) rfl)
theorem q52 : Jvm.Cond.methodLink "PoliteGatherer$Row" (3 : Nat) ({ cls := "java/lang/Object", name := "<init>", desc := "()V" } : Jvm.MethodName) ∈ tables_1 := qr1 (List.mem_of_getElem? (i := 52) rfl)
theorem q53 : Jvm.Cond.fieldLink "PoliteGatherer$Row" (9 : Nat) "PoliteGatherer$Row" "items" "[I" ∈ tables_1 := qr1 (List.mem_of_getElem? (i := 53) rfl)
theorem q54 : Jvm.Cond.fieldLink "PoliteGatherer$Row" (15 : Nat) "PoliteGatherer$Row" "size" "I" ∈ tables_1 := qr1 (List.mem_of_getElem? (i := 54) rfl)
theorem q55 : Jvm.Cond.fieldLinkNest "PoliteGatherer$Ranking" (67 : Nat) "PoliteGatherer$Row" "size" "I" "PoliteGatherer" ∈ tables_1 := qr1 (List.mem_of_getElem? (i := 55) rfl)
theorem q56 : Jvm.Cond.fieldLinkNest "PoliteGatherer$Gathering" (77 : Nat) "PoliteGatherer$Row" "size" "I" "PoliteGatherer" ∈ tables_1 := qr1 (List.mem_of_getElem? (i := 56) rfl)
theorem q57 : Jvm.Cond.fieldLinkNest "PoliteGatherer$Page" (42 : Nat) "PoliteGatherer$Row" "size" "I" "PoliteGatherer" ∈ tables_1 := qr1 (List.mem_of_getElem? (i := 57) rfl)
theorem q58 : Jvm.Cond.fieldLinkNest "PoliteGatherer" (104 : Nat) "PoliteGatherer$Row" "size" "I" "PoliteGatherer" ∈ tables_1 := qr1 (List.mem_of_getElem? (i := 58) rfl)
theorem q59 : Jvm.Cond.laysFinal "PoliteGatherer$Row" "PoliteGatherer$Row" "items" "[I" ∈ tables_1 := qr1 (List.mem_of_getElem? (i := 59) rfl)
theorem q61 : Jvm.Cond.lays "PoliteGatherer$Row" "PoliteGatherer$Row" "size" "I" ∈ tables_1 := qr1 (List.mem_of_getElem? (i := 61) rfl)
theorem q64 : Jvm.Cond.fieldLink "PoliteGatherer$Web" (11 : Nat) "PoliteGatherer$Web" "pages" "[LPoliteGatherer$Page;" ∈ tables_1 := qr1 (List.mem_of_getElem? (i := 64) rfl)
theorem q65 : Jvm.Cond.fieldLinkNest "PoliteGatherer$Ranking" (56 : Nat) "PoliteGatherer$Web" "pages" "[LPoliteGatherer$Page;" "PoliteGatherer" ∈ tables_1 := qr1 (List.mem_of_getElem? (i := 65) rfl)
theorem q66 : Jvm.Cond.fieldLinkNest "PoliteGatherer" (50 : Nat) "PoliteGatherer$Web" "pages" "[LPoliteGatherer$Page;" "PoliteGatherer" ∈ tables_1 := qr1 (List.mem_of_getElem? (i := 66) rfl)
theorem q67 : Jvm.Cond.fieldLinkNest "PoliteGatherer$Gathering" (95 : Nat) "PoliteGatherer$Web" "pages" "[LPoliteGatherer$Page;" "PoliteGatherer" ∈ tables_1 := qr1 (List.mem_of_getElem? (i := 67) rfl)
theorem q68 : Jvm.Cond.fieldLink "PoliteGatherer$Web" (19 : Nat) "PoliteGatherer$Web" "hosts" "[LPoliteGatherer$Host;" ∈ tables_1 := qr1 (List.mem_of_getElem? (i := 68) rfl)
theorem q69 : Jvm.Cond.fieldLinkNest "PoliteGatherer" (91 : Nat) "PoliteGatherer$Web" "hosts" "[LPoliteGatherer$Host;" "PoliteGatherer" ∈ tables_1 := qr1 (List.mem_of_getElem? (i := 69) rfl)
theorem q70 : Jvm.Cond.fieldLink "PoliteGatherer$Web" (29 : Nat) "PoliteGatherer$Web" "firsts" "LPoliteGatherer$Row;" ∈ tables_1 := qr1 (List.mem_of_getElem? (i := 70) rfl)
theorem q71 : Jvm.Cond.fieldLinkNest "PoliteGatherer$Gathering" (65 : Nat) "PoliteGatherer$Web" "firsts" "LPoliteGatherer$Row;" "PoliteGatherer" ∈ tables_1 := qr1 (List.mem_of_getElem? (i := 71) rfl)
theorem q72 : Jvm.Cond.fieldLinkNest "PoliteGatherer" (101 : Nat) "PoliteGatherer$Web" "firsts" "LPoliteGatherer$Row;" "PoliteGatherer" ∈ tables_1 := qr1 (List.mem_of_getElem? (i := 72) rfl)
theorem q73 : Jvm.Cond.fieldLink "PoliteGatherer$Web" (33 : Nat) "PoliteGatherer$Web" "pageCount" "I" ∈ tables_1 := qr1 (List.mem_of_getElem? (i := 73) rfl)
theorem q74 : Jvm.Cond.laysFinal "PoliteGatherer$Web" "PoliteGatherer$Web" "pages" "[LPoliteGatherer$Page;" ∈ tables_1 := qr1 (List.mem_of_getElem? (i := 74) rfl)
theorem q76 : Jvm.Cond.laysFinal "PoliteGatherer$Web" "PoliteGatherer$Web" "hosts" "[LPoliteGatherer$Host;" ∈ tables_1 := qr1 (List.mem_of_getElem? (i := 76) rfl)
theorem q78 : Jvm.Cond.laysFinal "PoliteGatherer$Web" "PoliteGatherer$Web" "firsts" "LPoliteGatherer$Row;" ∈ tables_1 := qr1 (List.mem_of_getElem? (i := 78) rfl)
theorem q80 : Jvm.Cond.lays "PoliteGatherer$Web" "PoliteGatherer$Web" "pageCount" "I" ∈ tables_1 := qr1 (List.mem_of_getElem? (i := 80) rfl)
theorem q83 : Jvm.Cond.classLink "PoliteGatherer" (16 : Nat) "PoliteGatherer$Gathering" ∈ tables_1 := qr1 (List.mem_of_getElem? (i := 83) rfl)
theorem q84 : Jvm.Cond.instantiable "PoliteGatherer$Gathering" (17 : Nat) ∈ tables_1 := qr1 (List.mem_of_getElem? (i := 84) rfl)
theorem q85 : Jvm.Cond.methodLink "PoliteGatherer" (18 : Nat) ({ cls := "PoliteGatherer$Gathering", name := "<init>", desc := "(LPoliteGatherer$Web;)V" } : Jvm.MethodName) ∈ tables_1 := qr1 (List.mem_of_getElem? (i := 85) rfl)
theorem q86 : Jvm.Cond.instanceMethod ({ cls := "PoliteGatherer$Gathering", name := "<init>", desc := "(LPoliteGatherer$Web;)V" } : Jvm.MethodName) ∈ tables_1 := qr1 (List.mem_of_getElem? (i := 86) rfl)
theorem q87 : Jvm.Cond.code ({ cls := "PoliteGatherer$Gathering", name := "<init>", desc := "(LPoliteGatherer$Web;)V" } : Jvm.MethodName) prog_2_method_1_code (2 : Nat) (Option.none : Option Jvm.ClassFile.FieldType) ∈ tables_1 := qr1 (List.mem_of_getElem? (i := 87) rfl)
theorem q88 : Jvm.Cond.methodLink "PoliteGatherer$Gathering" (3 : Nat) ({ cls := "java/lang/Object", name := "<init>", desc := "()V" } : Jvm.MethodName) ∈ tables_1 := qr1 (List.mem_of_getElem? (i := 88) rfl)
theorem q89 : Jvm.Cond.classLink "PoliteGatherer$Gathering" (15 : Nat) "PoliteGatherer$Row" ∈ tables_1 := qr1 (List.mem_of_getElem? (i := 89) rfl)
theorem q90 : Jvm.Cond.methodLink "PoliteGatherer$Gathering" (17 : Nat) ({ cls := "PoliteGatherer$Row", name := "<init>", desc := "(I)V" } : Jvm.MethodName) ∈ tables_1 := qr1 (List.mem_of_getElem? (i := 90) rfl)
theorem q91 : Jvm.Cond.fieldLink "PoliteGatherer$Gathering" (9 : Nat) "PoliteGatherer$Gathering" "web" "LPoliteGatherer$Web;" ∈ tables_1 := qr1 (List.mem_of_getElem? (i := 91) rfl)
theorem q92 : Jvm.Cond.fieldLink "PoliteGatherer$Gathering" (20 : Nat) "PoliteGatherer$Gathering" "queued" "LPoliteGatherer$Row;" ∈ tables_1 := qr1 (List.mem_of_getElem? (i := 92) rfl)
theorem q93 : Jvm.Cond.fieldLink "PoliteGatherer$Gathering" (24 : Nat) "PoliteGatherer$Gathering" "depths" "LPoliteGatherer$Row;" ∈ tables_1 := qr1 (List.mem_of_getElem? (i := 93) rfl)
theorem q94 : Jvm.Cond.fieldLink "PoliteGatherer$Gathering" (27 : Nat) "PoliteGatherer$Gathering" "fetched" "LPoliteGatherer$Row;" ∈ tables_1 := qr1 (List.mem_of_getElem? (i := 94) rfl)
theorem q95 : Jvm.Cond.fieldLink "PoliteGatherer$Gathering" (30 : Nat) "PoliteGatherer$Gathering" "corpus" "LPoliteGatherer$Row;" ∈ tables_1 := qr1 (List.mem_of_getElem? (i := 95) rfl)
theorem q96 : Jvm.Cond.fieldLinkNest "PoliteGatherer$Ranking" (47 : Nat) "PoliteGatherer$Gathering" "corpus" "LPoliteGatherer$Row;" "PoliteGatherer" ∈ tables_1 := qr1 (List.mem_of_getElem? (i := 96) rfl)
theorem q97 : Jvm.Cond.fieldLinkNest "PoliteGatherer" (134 : Nat) "PoliteGatherer$Gathering" "corpus" "LPoliteGatherer$Row;" "PoliteGatherer" ∈ tables_1 := qr1 (List.mem_of_getElem? (i := 97) rfl)
theorem q98 : Jvm.Cond.fieldLink "PoliteGatherer$Gathering" (33 : Nat) "PoliteGatherer$Gathering" "from" "[I" ∈ tables_1 := qr1 (List.mem_of_getElem? (i := 98) rfl)
theorem q99 : Jvm.Cond.fieldLink "PoliteGatherer$Gathering" (37 : Nat) "PoliteGatherer$Gathering" "limit" "I" ∈ tables_1 := qr1 (List.mem_of_getElem? (i := 99) rfl)
theorem q100 : Jvm.Cond.fieldLink "PoliteGatherer$Gathering" (41 : Nat) "PoliteGatherer$Gathering" "hops" "I" ∈ tables_1 := qr1 (List.mem_of_getElem? (i := 100) rfl)
theorem q101 : Jvm.Cond.fieldLink "PoliteGatherer$Gathering" (44 : Nat) "PoliteGatherer$Gathering" "delay" "I" ∈ tables_1 := qr1 (List.mem_of_getElem? (i := 101) rfl)
theorem q102 : Jvm.Cond.fieldLink "PoliteGatherer$Gathering" (47 : Nat) "PoliteGatherer$Gathering" "every" "I" ∈ tables_1 := qr1 (List.mem_of_getElem? (i := 102) rfl)
theorem q103 : Jvm.Cond.fieldLink "PoliteGatherer$Gathering" (53 : Nat) "PoliteGatherer$Gathering" "handled" "I" ∈ tables_1 := qr1 (List.mem_of_getElem? (i := 103) rfl)
theorem q104 : Jvm.Cond.fieldLink "PoliteGatherer$Gathering" (56 : Nat) "PoliteGatherer$Gathering" "now" "I" ∈ tables_1 := qr1 (List.mem_of_getElem? (i := 104) rfl)
theorem q105 : Jvm.Cond.fieldLinkNest "PoliteGatherer" (131 : Nat) "PoliteGatherer$Gathering" "now" "I" "PoliteGatherer" ∈ tables_1 := qr1 (List.mem_of_getElem? (i := 105) rfl)
theorem q106 : Jvm.Cond.fieldLink "PoliteGatherer$Gathering" (59 : Nat) "PoliteGatherer$Gathering" "fetchCount" "I" ∈ tables_1 := qr1 (List.mem_of_getElem? (i := 106) rfl)
theorem q107 : Jvm.Cond.fieldLinkNest "PoliteGatherer" (111 : Nat) "PoliteGatherer$Gathering" "fetchCount" "I" "PoliteGatherer" ∈ tables_1 := qr1 (List.mem_of_getElem? (i := 107) rfl)
theorem q108 : Jvm.Cond.fieldLink "PoliteGatherer$Gathering" (104 : Nat) "PoliteGatherer$Gathering" "handledAtMark" "I" ∈ tables_1 := qr1 (List.mem_of_getElem? (i := 108) rfl)
theorem q109 : Jvm.Cond.fieldLink "PoliteGatherer$Gathering" (128 : Nat) "PoliteGatherer$Gathering" "queuedAtMark" "I" ∈ tables_1 := qr1 (List.mem_of_getElem? (i := 109) rfl)
theorem q110 : Jvm.Cond.fieldLink "PoliteGatherer$Gathering" (131 : Nat) "PoliteGatherer$Gathering" "fetchedAtMark" "I" ∈ tables_1 := qr1 (List.mem_of_getElem? (i := 110) rfl)
theorem q111 : Jvm.Cond.fieldLink "PoliteGatherer$Gathering" (134 : Nat) "PoliteGatherer$Gathering" "corpusAtMark" "I" ∈ tables_1 := qr1 (List.mem_of_getElem? (i := 111) rfl)
theorem q112 : Jvm.Cond.laysFinal "PoliteGatherer$Gathering" "PoliteGatherer$Gathering" "web" "LPoliteGatherer$Web;" ∈ tables_1 := qr1 (List.mem_of_getElem? (i := 112) rfl)
theorem q114 : Jvm.Cond.laysFinal "PoliteGatherer$Gathering" "PoliteGatherer$Gathering" "queued" "LPoliteGatherer$Row;" ∈ tables_1 := qr1 (List.mem_of_getElem? (i := 114) rfl)
theorem q116 : Jvm.Cond.laysFinal "PoliteGatherer$Gathering" "PoliteGatherer$Gathering" "depths" "LPoliteGatherer$Row;" ∈ tables_1 := qr1 (List.mem_of_getElem? (i := 116) rfl)
theorem q118 : Jvm.Cond.laysFinal "PoliteGatherer$Gathering" "PoliteGatherer$Gathering" "fetched" "LPoliteGatherer$Row;" ∈ tables_1 := qr1 (List.mem_of_getElem? (i := 118) rfl)
theorem q120 : Jvm.Cond.laysFinal "PoliteGatherer$Gathering" "PoliteGatherer$Gathering" "corpus" "LPoliteGatherer$Row;" ∈ tables_1 := qr1 (List.mem_of_getElem? (i := 120) rfl)
theorem q122 : Jvm.Cond.laysFinal "PoliteGatherer$Gathering" "PoliteGatherer$Gathering" "from" "[I" ∈ tables_1 := qr1 (List.mem_of_getElem? (i := 122) rfl)
theorem q124 : Jvm.Cond.lays "PoliteGatherer$Gathering" "PoliteGatherer$Gathering" "limit" "I" ∈ tables_1 := qr1 (List.mem_of_getElem? (i := 124) rfl)
theorem q126 : Jvm.Cond.lays "PoliteGatherer$Gathering" "PoliteGatherer$Gathering" "hops" "I" ∈ tables_1 := qr1 (List.mem_of_getElem? (i := 126) rfl)
theorem q128 : Jvm.Cond.lays "PoliteGatherer$Gathering" "PoliteGatherer$Gathering" "delay" "I" ∈ tables_1 := qr1 (List.mem_of_getElem? (i := 128) rfl)
theorem q130 : Jvm.Cond.lays "PoliteGatherer$Gathering" "PoliteGatherer$Gathering" "every" "I" ∈ tables_1 := qr1 (List.mem_of_getElem? (i := 130) rfl)
theorem q132 : Jvm.Cond.lays "PoliteGatherer$Gathering" "PoliteGatherer$Gathering" "handled" "I" ∈ tables_1 := qr1 (List.mem_of_getElem? (i := 132) rfl)
theorem q134 : Jvm.Cond.lays "PoliteGatherer$Gathering" "PoliteGatherer$Gathering" "now" "I" ∈ tables_1 := qr1 (List.mem_of_getElem? (i := 134) rfl)
theorem q136 : Jvm.Cond.lays "PoliteGatherer$Gathering" "PoliteGatherer$Gathering" "fetchCount" "I" ∈ tables_1 := qr1 (List.mem_of_getElem? (i := 136) rfl)
theorem q138 : Jvm.Cond.lays "PoliteGatherer$Gathering" "PoliteGatherer$Gathering" "handledAtMark" "I" ∈ tables_1 := qr1 (List.mem_of_getElem? (i := 138) rfl)
theorem q140 : Jvm.Cond.lays "PoliteGatherer$Gathering" "PoliteGatherer$Gathering" "queuedAtMark" "I" ∈ tables_1 := qr1 (List.mem_of_getElem? (i := 140) rfl)
theorem q142 : Jvm.Cond.lays "PoliteGatherer$Gathering" "PoliteGatherer$Gathering" "fetchedAtMark" "I" ∈ tables_1 := qr1 (List.mem_of_getElem? (i := 142) rfl)
theorem q144 : Jvm.Cond.lays "PoliteGatherer$Gathering" "PoliteGatherer$Gathering" "corpusAtMark" "I" ∈ tables_1 := qr1 (List.mem_of_getElem? (i := 144) rfl)
theorem q147 : Jvm.Cond.classLink "PoliteGatherer" (25 : Nat) "PoliteGatherer$Ranking" ∈ tables_1 := qr1 (List.mem_of_getElem? (i := 147) rfl)
theorem q148 : Jvm.Cond.instantiable "PoliteGatherer$Ranking" (8 : Nat) ∈ tables_1 := qr1 (List.mem_of_getElem? (i := 148) rfl)
theorem q149 : Jvm.Cond.methodLink "PoliteGatherer" (27 : Nat) ({ cls := "PoliteGatherer$Ranking", name := "<init>", desc := "(LPoliteGatherer$Web;LPoliteGatherer$Gathering;)V" } : Jvm.MethodName) ∈ tables_1 := qr1 (List.mem_of_getElem? (i := 149) rfl)
theorem q150 : Jvm.Cond.instanceMethod ({ cls := "PoliteGatherer$Ranking", name := "<init>", desc := "(LPoliteGatherer$Web;LPoliteGatherer$Gathering;)V" } : Jvm.MethodName) ∈ tables_1 := qr1 (List.mem_of_getElem? (i := 150) rfl)
theorem q151 : Jvm.Cond.code ({ cls := "PoliteGatherer$Ranking", name := "<init>", desc := "(LPoliteGatherer$Web;LPoliteGatherer$Gathering;)V" } : Jvm.MethodName) prog_5_method_1_code (3 : Nat) (Option.none : Option Jvm.ClassFile.FieldType) ∈ tables_1 := qr1 (List.mem_of_getElem? (i := 151) rfl)
theorem q152 : Jvm.Cond.methodLink "PoliteGatherer$Ranking" (3 : Nat) ({ cls := "java/lang/Object", name := "<init>", desc := "()V" } : Jvm.MethodName) ∈ tables_1 := qr1 (List.mem_of_getElem? (i := 152) rfl)
theorem q153 : Jvm.Cond.classLink "PoliteGatherer$Ranking" (19 : Nat) "PoliteGatherer$Row" ∈ tables_1 := qr1 (List.mem_of_getElem? (i := 153) rfl)
theorem q154 : Jvm.Cond.methodLink "PoliteGatherer$Ranking" (21 : Nat) ({ cls := "PoliteGatherer$Row", name := "<init>", desc := "(I)V" } : Jvm.MethodName) ∈ tables_1 := qr1 (List.mem_of_getElem? (i := 154) rfl)
theorem q155 : Jvm.Cond.classLink "PoliteGatherer$Ranking" (28 : Nat) "[[I" ∈ tables_1 := qr1 (List.mem_of_getElem? (i := 155) rfl)
theorem q156 : Jvm.Cond.arrayOver (Jvm.ClassFile.FieldType.array Jvm.ClassFile.FieldType.int) ∈ tables_1 := qr1 (List.mem_of_getElem? (i := 156) rfl)
theorem q157 : Jvm.Cond.fieldLink "PoliteGatherer$Ranking" (9 : Nat) "PoliteGatherer$Ranking" "web" "LPoliteGatherer$Web;" ∈ tables_1 := qr1 (List.mem_of_getElem? (i := 157) rfl)
theorem q158 : Jvm.Cond.fieldLink "PoliteGatherer$Ranking" (15 : Nat) "PoliteGatherer$Ranking" "gathering" "LPoliteGatherer$Gathering;" ∈ tables_1 := qr1 (List.mem_of_getElem? (i := 158) rfl)
theorem q159 : Jvm.Cond.fieldLink "PoliteGatherer$Ranking" (24 : Nat) "PoliteGatherer$Ranking" "documents" "LPoliteGatherer$Row;" ∈ tables_1 := qr1 (List.mem_of_getElem? (i := 159) rfl)
theorem q160 : Jvm.Cond.fieldLink "PoliteGatherer$Ranking" (30 : Nat) "PoliteGatherer$Ranking" "leads" "[[I" ∈ tables_1 := qr1 (List.mem_of_getElem? (i := 160) rfl)
theorem q161 : Jvm.Cond.fieldLink "PoliteGatherer$Ranking" (33 : Nat) "PoliteGatherer$Ranking" "leading" "[I" ∈ tables_1 := qr1 (List.mem_of_getElem? (i := 161) rfl)
theorem q162 : Jvm.Cond.fieldLink "PoliteGatherer$Ranking" (37 : Nat) "PoliteGatherer$Ranking" "ranks" "[J" ∈ tables_1 := qr1 (List.mem_of_getElem? (i := 162) rfl)
theorem q163 : Jvm.Cond.fieldLinkNest "PoliteGatherer" (151 : Nat) "PoliteGatherer$Ranking" "ranks" "[J" "PoliteGatherer" ∈ tables_1 := qr1 (List.mem_of_getElem? (i := 163) rfl)
theorem q164 : Jvm.Cond.fieldLink "PoliteGatherer$Ranking" (41 : Nat) "PoliteGatherer$Ranking" "sums" "[J" ∈ tables_1 := qr1 (List.mem_of_getElem? (i := 164) rfl)
theorem q165 : Jvm.Cond.fieldLink "PoliteGatherer$Ranking" (44 : Nat) "PoliteGatherer$Ranking" "scores" "[J" ∈ tables_1 := qr1 (List.mem_of_getElem? (i := 165) rfl)
theorem q166 : Jvm.Cond.laysFinal "PoliteGatherer$Ranking" "PoliteGatherer$Ranking" "web" "LPoliteGatherer$Web;" ∈ tables_1 := qr1 (List.mem_of_getElem? (i := 166) rfl)
theorem q168 : Jvm.Cond.laysFinal "PoliteGatherer$Ranking" "PoliteGatherer$Ranking" "gathering" "LPoliteGatherer$Gathering;" ∈ tables_1 := qr1 (List.mem_of_getElem? (i := 168) rfl)
theorem q170 : Jvm.Cond.laysFinal "PoliteGatherer$Ranking" "PoliteGatherer$Ranking" "documents" "LPoliteGatherer$Row;" ∈ tables_1 := qr1 (List.mem_of_getElem? (i := 170) rfl)
theorem q172 : Jvm.Cond.laysFinal "PoliteGatherer$Ranking" "PoliteGatherer$Ranking" "leads" "[[I" ∈ tables_1 := qr1 (List.mem_of_getElem? (i := 172) rfl)
theorem q174 : Jvm.Cond.laysFinal "PoliteGatherer$Ranking" "PoliteGatherer$Ranking" "leading" "[I" ∈ tables_1 := qr1 (List.mem_of_getElem? (i := 174) rfl)
theorem q176 : Jvm.Cond.laysFinal "PoliteGatherer$Ranking" "PoliteGatherer$Ranking" "ranks" "[J" ∈ tables_1 := qr1 (List.mem_of_getElem? (i := 176) rfl)
theorem q178 : Jvm.Cond.laysFinal "PoliteGatherer$Ranking" "PoliteGatherer$Ranking" "sums" "[J" ∈ tables_1 := qr1 (List.mem_of_getElem? (i := 178) rfl)
theorem q180 : Jvm.Cond.laysFinal "PoliteGatherer$Ranking" "PoliteGatherer$Ranking" "scores" "[J" ∈ tables_1 := qr1 (List.mem_of_getElem? (i := 180) rfl)
theorem q183 : Jvm.Cond.arrayClass Jvm.ClassFile.FieldType.long ∈ tables_1 := qr1 (List.mem_of_getElem? (i := 183) rfl)
theorem q184 : Jvm.Cond.fieldLink "PoliteGatherer" (10 : Nat) "PoliteGatherer" "web" "LPoliteGatherer$Web;" ∈ tables_1 := qr1 (List.mem_of_getElem? (i := 184) rfl)
theorem q185 : Jvm.Cond.fieldLink "PoliteGatherer" (21 : Nat) "PoliteGatherer" "gathering" "LPoliteGatherer$Gathering;" ∈ tables_1 := qr1 (List.mem_of_getElem? (i := 185) rfl)
theorem q186 : Jvm.Cond.fieldLink "PoliteGatherer" (30 : Nat) "PoliteGatherer" "ranking" "LPoliteGatherer$Ranking;" ∈ tables_1 := qr1 (List.mem_of_getElem? (i := 186) rfl)
theorem q187 : Jvm.Cond.fieldLink "PoliteGatherer" (34 : Nat) "PoliteGatherer" "underWay" "Z" ∈ tables_1 := qr1 (List.mem_of_getElem? (i := 187) rfl)
theorem q188 : Jvm.Cond.laysFinal "PoliteGatherer" "PoliteGatherer" "web" "LPoliteGatherer$Web;" ∈ tables_1 := qr1 (List.mem_of_getElem? (i := 188) rfl)
theorem q190 : Jvm.Cond.laysFinal "PoliteGatherer" "PoliteGatherer" "gathering" "LPoliteGatherer$Gathering;" ∈ tables_1 := qr1 (List.mem_of_getElem? (i := 190) rfl)
theorem q192 : Jvm.Cond.laysFinal "PoliteGatherer" "PoliteGatherer" "ranking" "LPoliteGatherer$Ranking;" ∈ tables_1 := qr1 (List.mem_of_getElem? (i := 192) rfl)
theorem q194 : Jvm.Cond.lays "PoliteGatherer" "PoliteGatherer" "underWay" "Z" ∈ tables_1 := qr1 (List.mem_of_getElem? (i := 194) rfl)
theorem q197 : Jvm.Cond.methodLink "PoliteGathererLaw" (13 : Nat) ({ cls := "PoliteGatherer", name := "page", desc := "(II)I" } : Jvm.MethodName) ∈ tables_1 := qr1 (List.mem_of_getElem? (i := 197) rfl)
theorem q198 : Jvm.Cond.instanceMethod ({ cls := "PoliteGatherer", name := "page", desc := "(II)I" } : Jvm.MethodName) ∈ tables_1 := qr1 (List.mem_of_getElem? (i := 198) rfl)
theorem q199 : Jvm.Cond.selects "PoliteGatherer" ({ cls := "PoliteGatherer", name := "page", desc := "(II)I" } : Jvm.MethodName) ({ cls := "PoliteGatherer", name := "page", desc := "(II)I" } : Jvm.MethodName) ∈ tables_1 := qr1 (List.mem_of_getElem? (i := 199) rfl)
theorem q200 : Jvm.Cond.code ({ cls := "PoliteGatherer", name := "page", desc := "(II)I" } : Jvm.MethodName) prog_1_method_2_code (3 : Nat) (Option.some Jvm.ClassFile.FieldType.int) ∈ tables_1 := qr1 (List.mem_of_getElem? (i := 200) rfl)
theorem q201 : Jvm.Cond.methodLink "PoliteGatherer" (38 : Nat) ({ cls := "PoliteGatherer$Web", name := "addPage", desc := "(II)I" } : Jvm.MethodName) ∈ tables_1 := qr1 (List.mem_of_getElem? (i := 201) rfl)
theorem q202 : Jvm.Cond.instanceMethod ({ cls := "PoliteGatherer$Web", name := "addPage", desc := "(II)I" } : Jvm.MethodName) ∈ tables_1 := qr1 (List.mem_of_getElem? (i := 202) rfl)
theorem q203 : Jvm.Cond.selects "PoliteGatherer$Web" ({ cls := "PoliteGatherer$Web", name := "addPage", desc := "(II)I" } : Jvm.MethodName) ({ cls := "PoliteGatherer$Web", name := "addPage", desc := "(II)I" } : Jvm.MethodName) ∈ tables_1 := qr1 (List.mem_of_getElem? (i := 203) rfl)
theorem q204 : Jvm.Cond.code ({ cls := "PoliteGatherer$Web", name := "addPage", desc := "(II)I" } : Jvm.MethodName) prog_8_method_3_code (3 : Nat) (Option.some Jvm.ClassFile.FieldType.int) ∈ tables_1 := qr1 (List.mem_of_getElem? (i := 204) rfl)
theorem q205 : Jvm.Cond.methodLinkNest "PoliteGatherer$Web" (37 : Nat) ({ cls := "PoliteGatherer", name := "isHost", desc := "(I)Z" } : Jvm.MethodName) "PoliteGatherer" ∈ tables_1 := qr1 (List.mem_of_getElem? (i := 205) rfl)
theorem q206 : Jvm.Cond.static ({ cls := "PoliteGatherer", name := "isHost", desc := "(I)Z" } : Jvm.MethodName) ∈ tables_1 := qr1 (List.mem_of_getElem? (i := 206) rfl)
theorem q207 : Jvm.Cond.code ({ cls := "PoliteGatherer", name := "isHost", desc := "(I)Z" } : Jvm.MethodName) prog_1_method_24_code (1 : Nat) (Option.some Jvm.ClassFile.FieldType.boolean) ∈ tables_1 := qr1 (List.mem_of_getElem? (i := 207) rfl)
theorem q208 : Jvm.Cond.methodLink "PoliteGatherer" (46 : Nat) ({ cls := "PoliteGatherer", name := "isWithin", desc := "(III)Z" } : Jvm.MethodName) ∈ tables_1 := qr1 (List.mem_of_getElem? (i := 208) rfl)
theorem q209 : Jvm.Cond.static ({ cls := "PoliteGatherer", name := "isWithin", desc := "(III)Z" } : Jvm.MethodName) ∈ tables_1 := qr1 (List.mem_of_getElem? (i := 209) rfl)
theorem q210 : Jvm.Cond.code ({ cls := "PoliteGatherer", name := "isWithin", desc := "(III)Z" } : Jvm.MethodName) prog_1_method_23_code (3 : Nat) (Option.some Jvm.ClassFile.FieldType.boolean) ∈ tables_1 := qr1 (List.mem_of_getElem? (i := 210) rfl)
theorem q211 : Jvm.Cond.constant "PoliteGatherer$Web" (41 : Nat) (999999 : Int32) ∈ tables_1 := qr1 (List.mem_of_getElem? (i := 211) rfl)
theorem q212 : Jvm.Cond.methodLinkNest "PoliteGatherer$Web" (42 : Nat) ({ cls := "PoliteGatherer", name := "isWithin", desc := "(III)Z" } : Jvm.MethodName) "PoliteGatherer" ∈ tables_1 := qr1 (List.mem_of_getElem? (i := 212) rfl)
theorem q213 : Jvm.Cond.methodLink "PoliteGatherer$Web" (46 : Nat) ({ cls := "PoliteGatherer$Web", name := "isTaken", desc := "(II)Z" } : Jvm.MethodName) ∈ tables_1 := qr1 (List.mem_of_getElem? (i := 213) rfl)
theorem q215 : Jvm.Cond.instanceMethod ({ cls := "PoliteGatherer$Web", name := "isTaken", desc := "(II)Z" } : Jvm.MethodName) ∈ tables_1 := qr1 (List.mem_of_getElem? (i := 215) rfl)
theorem q216 : Jvm.Cond.code ({ cls := "PoliteGatherer$Web", name := "isTaken", desc := "(II)Z" } : Jvm.MethodName) prog_8_method_4_code (4 : Nat) (Option.some Jvm.ClassFile.FieldType.boolean) ∈ tables_1 := qr1 (List.mem_of_getElem? (i := 216) rfl)
theorem q217 : Jvm.Cond.instantiable "PoliteGatherer$Page" (6 : Nat) ∈ tables_1 := qr1 (List.mem_of_getElem? (i := 217) rfl)
theorem q218 : Jvm.Cond.methodLink "PoliteGatherer$Web" (50 : Nat) ({ cls := "PoliteGatherer$Page", name := "<init>", desc := "(II)V" } : Jvm.MethodName) ∈ tables_1 := qr1 (List.mem_of_getElem? (i := 218) rfl)
theorem q219 : Jvm.Cond.instanceMethod ({ cls := "PoliteGatherer$Page", name := "<init>", desc := "(II)V" } : Jvm.MethodName) ∈ tables_1 := qr1 (List.mem_of_getElem? (i := 219) rfl)
theorem q220 : Jvm.Cond.code ({ cls := "PoliteGatherer$Page", name := "<init>", desc := "(II)V" } : Jvm.MethodName) prog_4_method_1_code (3 : Nat) (Option.none : Option Jvm.ClassFile.FieldType) ∈ tables_1 := qr1 (List.mem_of_getElem? (i := 220) rfl)
theorem q221 : Jvm.Cond.methodLink "PoliteGatherer$Page" (3 : Nat) ({ cls := "java/lang/Object", name := "<init>", desc := "()V" } : Jvm.MethodName) ∈ tables_1 := qr1 (List.mem_of_getElem? (i := 221) rfl)
theorem q222 : Jvm.Cond.classLink "PoliteGatherer$Page" (18 : Nat) "PoliteGatherer$Row" ∈ tables_1 := qr1 (List.mem_of_getElem? (i := 222) rfl)
theorem q223 : Jvm.Cond.methodLink "PoliteGatherer$Page" (20 : Nat) ({ cls := "PoliteGatherer$Row", name := "<init>", desc := "(I)V" } : Jvm.MethodName) ∈ tables_1 := qr1 (List.mem_of_getElem? (i := 223) rfl)
theorem q224 : Jvm.Cond.fieldLink "PoliteGatherer$Page" (30 : Nat) "PoliteGatherer$Reply" "HERE" "LPoliteGatherer$Reply;" ∈ tables_1 := qr1 (List.mem_of_getElem? (i := 224) rfl)
theorem q225 : Jvm.Cond.laysStatic "PoliteGatherer$Reply" "HERE" "LPoliteGatherer$Reply;" ∈ tables_1 := qr1 (List.mem_of_getElem? (i := 225) rfl)
theorem q226 : Jvm.Cond.fieldLink "PoliteGatherer$Page" (9 : Nat) "PoliteGatherer$Page" "host" "I" ∈ tables_1 := qr1 (List.mem_of_getElem? (i := 226) rfl)
theorem q227 : Jvm.Cond.fieldLinkNest "PoliteGatherer$Web" (53 : Nat) "PoliteGatherer$Page" "host" "I" "PoliteGatherer" ∈ tables_1 := qr1 (List.mem_of_getElem? (i := 227) rfl)
theorem q228 : Jvm.Cond.fieldLinkNest "PoliteGatherer$Gathering" (137 : Nat) "PoliteGatherer$Page" "host" "I" "PoliteGatherer" ∈ tables_1 := qr1 (List.mem_of_getElem? (i := 228) rfl)
theorem q229 : Jvm.Cond.fieldLink "PoliteGatherer$Page" (15 : Nat) "PoliteGatherer$Page" "path" "I" ∈ tables_1 := qr1 (List.mem_of_getElem? (i := 229) rfl)
theorem q230 : Jvm.Cond.fieldLinkNest "PoliteGatherer$Web" (56 : Nat) "PoliteGatherer$Page" "path" "I" "PoliteGatherer" ∈ tables_1 := qr1 (List.mem_of_getElem? (i := 230) rfl)
theorem q231 : Jvm.Cond.fieldLink "PoliteGatherer$Page" (23 : Nat) "PoliteGatherer$Page" "body" "LPoliteGatherer$Row;" ∈ tables_1 := qr1 (List.mem_of_getElem? (i := 231) rfl)
theorem q232 : Jvm.Cond.fieldLinkNest "PoliteGatherer$Ranking" (62 : Nat) "PoliteGatherer$Page" "body" "LPoliteGatherer$Row;" "PoliteGatherer" ∈ tables_1 := qr1 (List.mem_of_getElem? (i := 232) rfl)
theorem q233 : Jvm.Cond.fieldLinkNest "PoliteGatherer" (54 : Nat) "PoliteGatherer$Page" "body" "LPoliteGatherer$Row;" "PoliteGatherer" ∈ tables_1 := qr1 (List.mem_of_getElem? (i := 233) rfl)
theorem q234 : Jvm.Cond.fieldLink "PoliteGatherer$Page" (27 : Nat) "PoliteGatherer$Page" "links" "LPoliteGatherer$Row;" ∈ tables_1 := qr1 (List.mem_of_getElem? (i := 234) rfl)
theorem q235 : Jvm.Cond.fieldLinkNest "PoliteGatherer" (68 : Nat) "PoliteGatherer$Page" "links" "LPoliteGatherer$Row;" "PoliteGatherer" ∈ tables_1 := qr1 (List.mem_of_getElem? (i := 235) rfl)
theorem q236 : Jvm.Cond.fieldLinkNest "PoliteGatherer$Gathering" (99 : Nat) "PoliteGatherer$Page" "links" "LPoliteGatherer$Row;" "PoliteGatherer" ∈ tables_1 := qr1 (List.mem_of_getElem? (i := 236) rfl)
theorem q237 : Jvm.Cond.fieldLinkNest "PoliteGatherer$Ranking" (109 : Nat) "PoliteGatherer$Page" "links" "LPoliteGatherer$Row;" "PoliteGatherer" ∈ tables_1 := qr1 (List.mem_of_getElem? (i := 237) rfl)
theorem q238 : Jvm.Cond.fieldLink "PoliteGatherer$Page" (36 : Nat) "PoliteGatherer$Page" "reply" "LPoliteGatherer$Reply;" ∈ tables_1 := qr1 (List.mem_of_getElem? (i := 238) rfl)
theorem q239 : Jvm.Cond.fieldLinkNest "PoliteGatherer" (77 : Nat) "PoliteGatherer$Page" "reply" "LPoliteGatherer$Reply;" "PoliteGatherer" ∈ tables_1 := qr1 (List.mem_of_getElem? (i := 239) rfl)
theorem q240 : Jvm.Cond.fieldLinkNest "PoliteGatherer$Gathering" (113 : Nat) "PoliteGatherer$Page" "reply" "LPoliteGatherer$Reply;" "PoliteGatherer" ∈ tables_1 := qr2 (List.mem_of_getElem? (i := 0) rfl)
theorem q241 : Jvm.Cond.fieldLink "PoliteGatherer$Page" (39 : Nat) "PoliteGatherer$Page" "target" "I" ∈ tables_1 := qr2 (List.mem_of_getElem? (i := 1) rfl)
theorem q242 : Jvm.Cond.fieldLinkNest "PoliteGatherer" (80 : Nat) "PoliteGatherer$Page" "target" "I" "PoliteGatherer" ∈ tables_1 := qr2 (List.mem_of_getElem? (i := 2) rfl)
theorem q243 : Jvm.Cond.fieldLinkNest "PoliteGatherer$Gathering" (125 : Nat) "PoliteGatherer$Page" "target" "I" "PoliteGatherer" ∈ tables_1 := qr2 (List.mem_of_getElem? (i := 3) rfl)
theorem q244 : Jvm.Cond.laysFinal "PoliteGatherer$Page" "PoliteGatherer$Page" "host" "I" ∈ tables_1 := qr2 (List.mem_of_getElem? (i := 4) rfl)
theorem q246 : Jvm.Cond.laysFinal "PoliteGatherer$Page" "PoliteGatherer$Page" "path" "I" ∈ tables_1 := qr2 (List.mem_of_getElem? (i := 6) rfl)
theorem q248 : Jvm.Cond.laysFinal "PoliteGatherer$Page" "PoliteGatherer$Page" "body" "LPoliteGatherer$Row;" ∈ tables_1 := qr2 (List.mem_of_getElem? (i := 8) rfl)
theorem q250 : Jvm.Cond.laysFinal "PoliteGatherer$Page" "PoliteGatherer$Page" "links" "LPoliteGatherer$Row;" ∈ tables_1 := qr2 (List.mem_of_getElem? (i := 10) rfl)
theorem q252 : Jvm.Cond.lays "PoliteGatherer$Page" "PoliteGatherer$Page" "reply" "LPoliteGatherer$Reply;" ∈ tables_1 := qr2 (List.mem_of_getElem? (i := 12) rfl)
theorem q254 : Jvm.Cond.lays "PoliteGatherer$Page" "PoliteGatherer$Page" "target" "I" ∈ tables_1 := qr2 (List.mem_of_getElem? (i := 14) rfl)
theorem q257 : Jvm.Cond.methodLink "PoliteGathererLaw" (18 : Nat) ({ cls := "PoliteGatherer", name := "write", desc := "(II)Z" } : Jvm.MethodName) ∈ tables_1 := qr2 (List.mem_of_getElem? (i := 17) rfl)
theorem q258 : Jvm.Cond.instanceMethod ({ cls := "PoliteGatherer", name := "write", desc := "(II)Z" } : Jvm.MethodName) ∈ tables_1 := qr2 (List.mem_of_getElem? (i := 18) rfl)
theorem q259 : Jvm.Cond.selects "PoliteGatherer" ({ cls := "PoliteGatherer", name := "write", desc := "(II)Z" } : Jvm.MethodName) ({ cls := "PoliteGatherer", name := "write", desc := "(II)Z" } : Jvm.MethodName) ∈ tables_1 := qr2 (List.mem_of_getElem? (i := 19) rfl)
theorem q260 : Jvm.Cond.code ({ cls := "PoliteGatherer", name := "write", desc := "(II)Z" } : Jvm.MethodName) prog_1_method_3_code (3 : Nat) (Option.some Jvm.ClassFile.FieldType.boolean) ∈ tables_1 := qr2 (List.mem_of_getElem? (i := 20) rfl)
theorem q261 : Jvm.Cond.methodLink "PoliteGatherer" (42 : Nat) ({ cls := "PoliteGatherer", name := "canChange", desc := "(I)Z" } : Jvm.MethodName) ∈ tables_1 := qr2 (List.mem_of_getElem? (i := 21) rfl)
theorem q263 : Jvm.Cond.instanceMethod ({ cls := "PoliteGatherer", name := "canChange", desc := "(I)Z" } : Jvm.MethodName) ∈ tables_1 := qr2 (List.mem_of_getElem? (i := 23) rfl)
theorem q264 : Jvm.Cond.code ({ cls := "PoliteGatherer", name := "canChange", desc := "(I)Z" } : Jvm.MethodName) prog_1_method_22_code (2 : Nat) (Option.some Jvm.ClassFile.FieldType.boolean) ∈ tables_1 := qr2 (List.mem_of_getElem? (i := 24) rfl)
theorem q265 : Jvm.Cond.methodLink "PoliteGatherer" (65 : Nat) ({ cls := "PoliteGatherer$Web", name := "isPage", desc := "(I)Z" } : Jvm.MethodName) ∈ tables_1 := qr2 (List.mem_of_getElem? (i := 25) rfl)
theorem q266 : Jvm.Cond.instanceMethod ({ cls := "PoliteGatherer$Web", name := "isPage", desc := "(I)Z" } : Jvm.MethodName) ∈ tables_1 := qr2 (List.mem_of_getElem? (i := 26) rfl)
theorem q267 : Jvm.Cond.selects "PoliteGatherer$Web" ({ cls := "PoliteGatherer$Web", name := "isPage", desc := "(I)Z" } : Jvm.MethodName) ({ cls := "PoliteGatherer$Web", name := "isPage", desc := "(I)Z" } : Jvm.MethodName) ∈ tables_1 := qr2 (List.mem_of_getElem? (i := 27) rfl)
theorem q268 : Jvm.Cond.code ({ cls := "PoliteGatherer$Web", name := "isPage", desc := "(I)Z" } : Jvm.MethodName) prog_8_method_2_code (2 : Nat) (Option.some Jvm.ClassFile.FieldType.boolean) ∈ tables_1 := qr2 (List.mem_of_getElem? (i := 28) rfl)
theorem q269 : Jvm.Cond.methodLink "PoliteGatherer" (60 : Nat) ({ cls := "PoliteGatherer$Row", name := "add", desc := "(I)Z" } : Jvm.MethodName) ∈ tables_1 := qr2 (List.mem_of_getElem? (i := 29) rfl)
theorem q270 : Jvm.Cond.instanceMethod ({ cls := "PoliteGatherer$Row", name := "add", desc := "(I)Z" } : Jvm.MethodName) ∈ tables_1 := qr2 (List.mem_of_getElem? (i := 30) rfl)
theorem q271 : Jvm.Cond.selects "PoliteGatherer$Row" ({ cls := "PoliteGatherer$Row", name := "add", desc := "(I)Z" } : Jvm.MethodName) ({ cls := "PoliteGatherer$Row", name := "add", desc := "(I)Z" } : Jvm.MethodName) ∈ tables_1 := qr2 (List.mem_of_getElem? (i := 31) rfl)
theorem q272 : Jvm.Cond.code ({ cls := "PoliteGatherer$Row", name := "add", desc := "(I)Z" } : Jvm.MethodName) prog_7_method_2_code (2 : Nat) (Option.some Jvm.ClassFile.FieldType.boolean) ∈ tables_1 := qr2 (List.mem_of_getElem? (i := 32) rfl)
theorem q273 : Jvm.Cond.methodLink "PoliteGathererLaw" (23 : Nat) ({ cls := "PoliteGatherer", name := "link", desc := "(II)Z" } : Jvm.MethodName) ∈ tables_1 := qr2 (List.mem_of_getElem? (i := 33) rfl)
theorem q274 : Jvm.Cond.instanceMethod ({ cls := "PoliteGatherer", name := "link", desc := "(II)Z" } : Jvm.MethodName) ∈ tables_1 := qr2 (List.mem_of_getElem? (i := 34) rfl)
theorem q275 : Jvm.Cond.selects "PoliteGatherer" ({ cls := "PoliteGatherer", name := "link", desc := "(II)Z" } : Jvm.MethodName) ({ cls := "PoliteGatherer", name := "link", desc := "(II)Z" } : Jvm.MethodName) ∈ tables_1 := qr2 (List.mem_of_getElem? (i := 35) rfl)
theorem q276 : Jvm.Cond.code ({ cls := "PoliteGatherer", name := "link", desc := "(II)Z" } : Jvm.MethodName) prog_1_method_4_code (3 : Nat) (Option.some Jvm.ClassFile.FieldType.boolean) ∈ tables_1 := qr2 (List.mem_of_getElem? (i := 36) rfl)
theorem q277 : Jvm.Cond.methodLink "PoliteGathererLaw" (27 : Nat) ({ cls := "PoliteGatherer", name := "move", desc := "(II)Z" } : Jvm.MethodName) ∈ tables_1 := qr2 (List.mem_of_getElem? (i := 37) rfl)
theorem q278 : Jvm.Cond.instanceMethod ({ cls := "PoliteGatherer", name := "move", desc := "(II)Z" } : Jvm.MethodName) ∈ tables_1 := qr2 (List.mem_of_getElem? (i := 38) rfl)
theorem q279 : Jvm.Cond.selects "PoliteGatherer" ({ cls := "PoliteGatherer", name := "move", desc := "(II)Z" } : Jvm.MethodName) ({ cls := "PoliteGatherer", name := "move", desc := "(II)Z" } : Jvm.MethodName) ∈ tables_1 := qr2 (List.mem_of_getElem? (i := 39) rfl)
theorem q280 : Jvm.Cond.code ({ cls := "PoliteGatherer", name := "move", desc := "(II)Z" } : Jvm.MethodName) prog_1_method_5_code (3 : Nat) (Option.some Jvm.ClassFile.FieldType.boolean) ∈ tables_1 := qr2 (List.mem_of_getElem? (i := 40) rfl)
theorem q281 : Jvm.Cond.fieldLink "PoliteGatherer" (71 : Nat) "PoliteGatherer$Reply" "MOVED" "LPoliteGatherer$Reply;" ∈ tables_1 := qr2 (List.mem_of_getElem? (i := 41) rfl)
theorem q282 : Jvm.Cond.laysStatic "PoliteGatherer$Reply" "MOVED" "LPoliteGatherer$Reply;" ∈ tables_1 := qr2 (List.mem_of_getElem? (i := 42) rfl)
theorem q283 : Jvm.Cond.methodLink "PoliteGathererLaw" (31 : Nat) ({ cls := "PoliteGatherer", name := "drop", desc := "(I)Z" } : Jvm.MethodName) ∈ tables_1 := qr2 (List.mem_of_getElem? (i := 43) rfl)
theorem q284 : Jvm.Cond.instanceMethod ({ cls := "PoliteGatherer", name := "drop", desc := "(I)Z" } : Jvm.MethodName) ∈ tables_1 := qr2 (List.mem_of_getElem? (i := 44) rfl)
theorem q285 : Jvm.Cond.selects "PoliteGatherer" ({ cls := "PoliteGatherer", name := "drop", desc := "(I)Z" } : Jvm.MethodName) ({ cls := "PoliteGatherer", name := "drop", desc := "(I)Z" } : Jvm.MethodName) ∈ tables_1 := qr2 (List.mem_of_getElem? (i := 45) rfl)
theorem q286 : Jvm.Cond.code ({ cls := "PoliteGatherer", name := "drop", desc := "(I)Z" } : Jvm.MethodName) prog_1_method_6_code (2 : Nat) (Option.some Jvm.ClassFile.FieldType.boolean) ∈ tables_1 := qr2 (List.mem_of_getElem? (i := 46) rfl)
theorem q287 : Jvm.Cond.fieldLink "PoliteGatherer" (84 : Nat) "PoliteGatherer$Reply" "GONE" "LPoliteGatherer$Reply;" ∈ tables_1 := qr2 (List.mem_of_getElem? (i := 47) rfl)
theorem q288 : Jvm.Cond.laysStatic "PoliteGatherer$Reply" "GONE" "LPoliteGatherer$Reply;" ∈ tables_1 := qr2 (List.mem_of_getElem? (i := 48) rfl)
theorem q289 : Jvm.Cond.methodLink "PoliteGathererLaw" (36 : Nat) ({ cls := "PoliteGatherer", name := "rule", desc := "(IIZ)Z" } : Jvm.MethodName) ∈ tables_1 := qr2 (List.mem_of_getElem? (i := 49) rfl)
theorem q290 : Jvm.Cond.instanceMethod ({ cls := "PoliteGatherer", name := "rule", desc := "(IIZ)Z" } : Jvm.MethodName) ∈ tables_1 := qr2 (List.mem_of_getElem? (i := 50) rfl)
theorem q291 : Jvm.Cond.selects "PoliteGatherer" ({ cls := "PoliteGatherer", name := "rule", desc := "(IIZ)Z" } : Jvm.MethodName) ({ cls := "PoliteGatherer", name := "rule", desc := "(IIZ)Z" } : Jvm.MethodName) ∈ tables_1 := qr2 (List.mem_of_getElem? (i := 51) rfl)
theorem q292 : Jvm.Cond.code ({ cls := "PoliteGatherer", name := "rule", desc := "(IIZ)Z" } : Jvm.MethodName) prog_1_method_7_code (4 : Nat) (Option.some Jvm.ClassFile.FieldType.boolean) ∈ tables_1 := qr2 (List.mem_of_getElem? (i := 52) rfl)
theorem q293 : Jvm.Cond.methodLink "PoliteGatherer" (87 : Nat) ({ cls := "PoliteGatherer", name := "isHost", desc := "(I)Z" } : Jvm.MethodName) ∈ tables_1 := qr2 (List.mem_of_getElem? (i := 53) rfl)
theorem q294 : Jvm.Cond.constant "PoliteGatherer" (90 : Nat) (999999 : Int32) ∈ tables_1 := qr2 (List.mem_of_getElem? (i := 54) rfl)
theorem q295 : Jvm.Cond.methodLink "PoliteGatherer" (95 : Nat) ({ cls := "PoliteGatherer$Host", name := "addRule", desc := "(IZ)Z" } : Jvm.MethodName) ∈ tables_1 := qr2 (List.mem_of_getElem? (i := 55) rfl)
theorem q296 : Jvm.Cond.instanceMethod ({ cls := "PoliteGatherer$Host", name := "addRule", desc := "(IZ)Z" } : Jvm.MethodName) ∈ tables_1 := qr2 (List.mem_of_getElem? (i := 56) rfl)
theorem q297 : Jvm.Cond.selects "PoliteGatherer$Host" ({ cls := "PoliteGatherer$Host", name := "addRule", desc := "(IZ)Z" } : Jvm.MethodName) ({ cls := "PoliteGatherer$Host", name := "addRule", desc := "(IZ)Z" } : Jvm.MethodName) ∈ tables_1 := qr2 (List.mem_of_getElem? (i := 57) rfl)
theorem q298 : Jvm.Cond.code ({ cls := "PoliteGatherer$Host", name := "addRule", desc := "(IZ)Z" } : Jvm.MethodName) prog_3_method_2_code (3 : Nat) (Option.some Jvm.ClassFile.FieldType.boolean) ∈ tables_1 := qr2 (List.mem_of_getElem? (i := 58) rfl)
theorem q299 : Jvm.Cond.methodLink "PoliteGathererLaw" (41 : Nat) ({ cls := "PoliteGatherer", name := "first", desc := "(I)Z" } : Jvm.MethodName) ∈ tables_1 := qr2 (List.mem_of_getElem? (i := 59) rfl)
theorem q300 : Jvm.Cond.instanceMethod ({ cls := "PoliteGatherer", name := "first", desc := "(I)Z" } : Jvm.MethodName) ∈ tables_1 := qr2 (List.mem_of_getElem? (i := 60) rfl)
theorem q301 : Jvm.Cond.selects "PoliteGatherer" ({ cls := "PoliteGatherer", name := "first", desc := "(I)Z" } : Jvm.MethodName) ({ cls := "PoliteGatherer", name := "first", desc := "(I)Z" } : Jvm.MethodName) ∈ tables_1 := qr2 (List.mem_of_getElem? (i := 61) rfl)
theorem q302 : Jvm.Cond.code ({ cls := "PoliteGatherer", name := "first", desc := "(I)Z" } : Jvm.MethodName) prog_1_method_8_code (2 : Nat) (Option.some Jvm.ClassFile.FieldType.boolean) ∈ tables_1 := qr2 (List.mem_of_getElem? (i := 62) rfl)
theorem q303 : Jvm.Cond.methodLink "PoliteGathererLaw" (45 : Nat) ({ cls := "PoliteGatherer", name := "begin", desc := "(IIII)Z" } : Jvm.MethodName) ∈ tables_1 := qr2 (List.mem_of_getElem? (i := 63) rfl)
theorem q304 : Jvm.Cond.instanceMethod ({ cls := "PoliteGatherer", name := "begin", desc := "(IIII)Z" } : Jvm.MethodName) ∈ tables_1 := qr2 (List.mem_of_getElem? (i := 64) rfl)
theorem q305 : Jvm.Cond.selects "PoliteGatherer" ({ cls := "PoliteGatherer", name := "begin", desc := "(IIII)Z" } : Jvm.MethodName) ({ cls := "PoliteGatherer", name := "begin", desc := "(IIII)Z" } : Jvm.MethodName) ∈ tables_1 := qr2 (List.mem_of_getElem? (i := 65) rfl)
theorem q306 : Jvm.Cond.code ({ cls := "PoliteGatherer", name := "begin", desc := "(IIII)Z" } : Jvm.MethodName) prog_1_method_9_code (5 : Nat) (Option.some Jvm.ClassFile.FieldType.boolean) ∈ tables_1 := qr2 (List.mem_of_getElem? (i := 66) rfl)
theorem q307 : Jvm.Cond.methodLink "PoliteGatherer" (107 : Nat) ({ cls := "PoliteGatherer$Gathering", name := "startAnew", desc := "(IIII)V" } : Jvm.MethodName) ∈ tables_1 := qr2 (List.mem_of_getElem? (i := 67) rfl)
theorem q308 : Jvm.Cond.instanceMethod ({ cls := "PoliteGatherer$Gathering", name := "startAnew", desc := "(IIII)V" } : Jvm.MethodName) ∈ tables_1 := qr2 (List.mem_of_getElem? (i := 68) rfl)
theorem q309 : Jvm.Cond.selects "PoliteGatherer$Gathering" ({ cls := "PoliteGatherer$Gathering", name := "startAnew", desc := "(IIII)V" } : Jvm.MethodName) ({ cls := "PoliteGatherer$Gathering", name := "startAnew", desc := "(IIII)V" } : Jvm.MethodName) ∈ tables_1 := qr2 (List.mem_of_getElem? (i := 69) rfl)
theorem q310 : Jvm.Cond.code ({ cls := "PoliteGatherer$Gathering", name := "startAnew", desc := "(IIII)V" } : Jvm.MethodName) prog_2_method_2_code (5 : Nat) (Option.none : Option Jvm.ClassFile.FieldType) ∈ tables_1 := qr2 (List.mem_of_getElem? (i := 70) rfl)
theorem q311 : Jvm.Cond.methodLink "PoliteGatherer$Gathering" (50 : Nat) ({ cls := "PoliteGatherer$Row", name := "cutTo", desc := "(I)V" } : Jvm.MethodName) ∈ tables_1 := qr2 (List.mem_of_getElem? (i := 71) rfl)
theorem q312 : Jvm.Cond.instanceMethod ({ cls := "PoliteGatherer$Row", name := "cutTo", desc := "(I)V" } : Jvm.MethodName) ∈ tables_1 := qr2 (List.mem_of_getElem? (i := 72) rfl)
theorem q313 : Jvm.Cond.selects "PoliteGatherer$Row" ({ cls := "PoliteGatherer$Row", name := "cutTo", desc := "(I)V" } : Jvm.MethodName) ({ cls := "PoliteGatherer$Row", name := "cutTo", desc := "(I)V" } : Jvm.MethodName) ∈ tables_1 := qr2 (List.mem_of_getElem? (i := 73) rfl)
theorem q314 : Jvm.Cond.code ({ cls := "PoliteGatherer$Row", name := "cutTo", desc := "(I)V" } : Jvm.MethodName) prog_7_method_6_code (2 : Nat) (Option.none : Option Jvm.ClassFile.FieldType) ∈ tables_1 := qr2 (List.mem_of_getElem? (i := 74) rfl)
theorem q315 : Jvm.Cond.methodLink "PoliteGatherer$Row" (19 : Nat) ({ cls := "java/lang/Math", name := "min", desc := "(II)I" } : Jvm.MethodName) ∈ tables_1 := qr2 (List.mem_of_getElem? (i := 75) rfl)
theorem q316 : Jvm.Cond.static ({ cls := "java/lang/Math", name := "min", desc := "(II)I" } : Jvm.MethodName) ∈ tables_1 := qr2 (List.mem_of_getElem? (i := 76) rfl)
theorem q317 : Jvm.Cond.code ({ cls := "java/lang/Math", name := "min", desc := "(II)I" } : Jvm.MethodName) prog_12_method_69_code (2 : Nat) (Option.some Jvm.ClassFile.FieldType.int) ∈ tables_1 := qr2 (List.mem_of_getElem? (i := 77) rfl)
theorem q318 : Jvm.Cond.methodLink "PoliteGatherer$Gathering" (62 : Nat) ({ cls := "PoliteGatherer$Gathering", name := "setAllFrom", desc := "(I)V" } : Jvm.MethodName) ∈ tables_1 := qr2 (List.mem_of_getElem? (i := 78) rfl)
theorem q320 : Jvm.Cond.instanceMethod ({ cls := "PoliteGatherer$Gathering", name := "setAllFrom", desc := "(I)V" } : Jvm.MethodName) ∈ tables_1 := qr2 (List.mem_of_getElem? (i := 80) rfl)
theorem q321 : Jvm.Cond.code ({ cls := "PoliteGatherer$Gathering", name := "setAllFrom", desc := "(I)V" } : Jvm.MethodName) prog_2_method_9_code (3 : Nat) (Option.none : Option Jvm.ClassFile.FieldType) ∈ tables_1 := qr2 (List.mem_of_getElem? (i := 81) rfl)
theorem q322 : Jvm.Cond.methodLink "PoliteGatherer$Gathering" (70 : Nat) ({ cls := "PoliteGatherer$Gathering", name := "enqueueAll", desc := "(LPoliteGatherer$Row;I)V" } : Jvm.MethodName) ∈ tables_1 := qr2 (List.mem_of_getElem? (i := 82) rfl)
theorem q324 : Jvm.Cond.instanceMethod ({ cls := "PoliteGatherer$Gathering", name := "enqueueAll", desc := "(LPoliteGatherer$Row;I)V" } : Jvm.MethodName) ∈ tables_1 := qr2 (List.mem_of_getElem? (i := 84) rfl)
theorem q325 : Jvm.Cond.code ({ cls := "PoliteGatherer$Gathering", name := "enqueueAll", desc := "(LPoliteGatherer$Row;I)V" } : Jvm.MethodName) prog_2_method_8_code (5 : Nat) (Option.none : Option Jvm.ClassFile.FieldType) ∈ tables_1 := qr2 (List.mem_of_getElem? (i := 85) rfl)
theorem q326 : Jvm.Cond.methodLink "PoliteGatherer$Gathering" (80 : Nat) ({ cls := "PoliteGatherer$Row", name := "at", desc := "(I)I" } : Jvm.MethodName) ∈ tables_1 := qr2 (List.mem_of_getElem? (i := 86) rfl)
theorem q327 : Jvm.Cond.instanceMethod ({ cls := "PoliteGatherer$Row", name := "at", desc := "(I)I" } : Jvm.MethodName) ∈ tables_1 := qr2 (List.mem_of_getElem? (i := 87) rfl)
theorem q328 : Jvm.Cond.selects "PoliteGatherer$Row" ({ cls := "PoliteGatherer$Row", name := "at", desc := "(I)I" } : Jvm.MethodName) ({ cls := "PoliteGatherer$Row", name := "at", desc := "(I)I" } : Jvm.MethodName) ∈ tables_1 := qr2 (List.mem_of_getElem? (i := 88) rfl)
theorem q329 : Jvm.Cond.code ({ cls := "PoliteGatherer$Row", name := "at", desc := "(I)I" } : Jvm.MethodName) prog_7_method_3_code (2 : Nat) (Option.some Jvm.ClassFile.FieldType.int) ∈ tables_1 := qr2 (List.mem_of_getElem? (i := 89) rfl)
theorem q330 : Jvm.Cond.methodLink "PoliteGatherer$Gathering" (88 : Nat) ({ cls := "PoliteGatherer$Row", name := "holds", desc := "(I)Z" } : Jvm.MethodName) ∈ tables_1 := qr2 (List.mem_of_getElem? (i := 90) rfl)
theorem q331 : Jvm.Cond.instanceMethod ({ cls := "PoliteGatherer$Row", name := "holds", desc := "(I)Z" } : Jvm.MethodName) ∈ tables_1 := qr2 (List.mem_of_getElem? (i := 91) rfl)
theorem q332 : Jvm.Cond.selects "PoliteGatherer$Row" ({ cls := "PoliteGatherer$Row", name := "holds", desc := "(I)Z" } : Jvm.MethodName) ({ cls := "PoliteGatherer$Row", name := "holds", desc := "(I)Z" } : Jvm.MethodName) ∈ tables_1 := qr2 (List.mem_of_getElem? (i := 92) rfl)
theorem q333 : Jvm.Cond.code ({ cls := "PoliteGatherer$Row", name := "holds", desc := "(I)Z" } : Jvm.MethodName) prog_7_method_4_code (3 : Nat) (Option.some Jvm.ClassFile.FieldType.boolean) ∈ tables_1 := qr2 (List.mem_of_getElem? (i := 93) rfl)
theorem q334 : Jvm.Cond.methodLink "PoliteGatherer$Gathering" (92 : Nat) ({ cls := "PoliteGatherer$Row", name := "add", desc := "(I)Z" } : Jvm.MethodName) ∈ tables_1 := qr2 (List.mem_of_getElem? (i := 94) rfl)
theorem q335 : Jvm.Cond.methodLink "PoliteGatherer$Gathering" (74 : Nat) ({ cls := "PoliteGatherer$Gathering", name := "setMark", desc := "()V" } : Jvm.MethodName) ∈ tables_1 := qr2 (List.mem_of_getElem? (i := 95) rfl)
theorem q337 : Jvm.Cond.instanceMethod ({ cls := "PoliteGatherer$Gathering", name := "setMark", desc := "()V" } : Jvm.MethodName) ∈ tables_1 := qr2 (List.mem_of_getElem? (i := 97) rfl)
theorem q338 : Jvm.Cond.code ({ cls := "PoliteGatherer$Gathering", name := "setMark", desc := "()V" } : Jvm.MethodName) prog_2_method_10_code (1 : Nat) (Option.none : Option Jvm.ClassFile.FieldType) ∈ tables_1 := qr2 (List.mem_of_getElem? (i := 98) rfl)
theorem q339 : Jvm.Cond.methodLink "PoliteGathererLaw" (50 : Nat) ({ cls := "PoliteGatherer", name := "stop", desc := "()Z" } : Jvm.MethodName) ∈ tables_1 := qr2 (List.mem_of_getElem? (i := 99) rfl)
theorem q340 : Jvm.Cond.instanceMethod ({ cls := "PoliteGatherer", name := "stop", desc := "()Z" } : Jvm.MethodName) ∈ tables_1 := qr2 (List.mem_of_getElem? (i := 100) rfl)
theorem q341 : Jvm.Cond.selects "PoliteGatherer" ({ cls := "PoliteGatherer", name := "stop", desc := "()Z" } : Jvm.MethodName) ({ cls := "PoliteGatherer", name := "stop", desc := "()Z" } : Jvm.MethodName) ∈ tables_1 := qr2 (List.mem_of_getElem? (i := 101) rfl)
theorem q342 : Jvm.Cond.code ({ cls := "PoliteGatherer", name := "stop", desc := "()Z" } : Jvm.MethodName) prog_1_method_10_code (1 : Nat) (Option.some Jvm.ClassFile.FieldType.boolean) ∈ tables_1 := qr2 (List.mem_of_getElem? (i := 102) rfl)
theorem q343 : Jvm.Cond.methodLink "PoliteGathererLaw" (55 : Nat) ({ cls := "PoliteGatherer", name := "work", desc := "(I)I" } : Jvm.MethodName) ∈ tables_1 := qr2 (List.mem_of_getElem? (i := 103) rfl)
theorem q344 : Jvm.Cond.instanceMethod ({ cls := "PoliteGatherer", name := "work", desc := "(I)I" } : Jvm.MethodName) ∈ tables_1 := qr2 (List.mem_of_getElem? (i := 104) rfl)
theorem q345 : Jvm.Cond.selects "PoliteGatherer" ({ cls := "PoliteGatherer", name := "work", desc := "(I)I" } : Jvm.MethodName) ({ cls := "PoliteGatherer", name := "work", desc := "(I)I" } : Jvm.MethodName) ∈ tables_1 := qr2 (List.mem_of_getElem? (i := 105) rfl)
theorem q346 : Jvm.Cond.code ({ cls := "PoliteGatherer", name := "work", desc := "(I)I" } : Jvm.MethodName) prog_1_method_11_code (4 : Nat) (Option.some Jvm.ClassFile.FieldType.int) ∈ tables_1 := qr2 (List.mem_of_getElem? (i := 106) rfl)
theorem q347 : Jvm.Cond.methodLink "PoliteGatherer" (114 : Nat) ({ cls := "PoliteGatherer$Gathering", name := "entriesLeft", desc := "()I" } : Jvm.MethodName) ∈ tables_1 := qr2 (List.mem_of_getElem? (i := 107) rfl)
theorem q348 : Jvm.Cond.instanceMethod ({ cls := "PoliteGatherer$Gathering", name := "entriesLeft", desc := "()I" } : Jvm.MethodName) ∈ tables_1 := qr2 (List.mem_of_getElem? (i := 108) rfl)
theorem q349 : Jvm.Cond.selects "PoliteGatherer$Gathering" ({ cls := "PoliteGatherer$Gathering", name := "entriesLeft", desc := "()I" } : Jvm.MethodName) ({ cls := "PoliteGatherer$Gathering", name := "entriesLeft", desc := "()I" } : Jvm.MethodName) ∈ tables_1 := qr2 (List.mem_of_getElem? (i := 109) rfl)
theorem q350 : Jvm.Cond.code ({ cls := "PoliteGatherer$Gathering", name := "entriesLeft", desc := "()I" } : Jvm.MethodName) prog_2_method_3_code (1 : Nat) (Option.some Jvm.ClassFile.FieldType.int) ∈ tables_1 := qr2 (List.mem_of_getElem? (i := 110) rfl)
theorem q351 : Jvm.Cond.methodLink "PoliteGatherer" (118 : Nat) ({ cls := "PoliteGatherer$Gathering", name := "handleEntry", desc := "()V" } : Jvm.MethodName) ∈ tables_1 := qr2 (List.mem_of_getElem? (i := 111) rfl)
theorem q352 : Jvm.Cond.instanceMethod ({ cls := "PoliteGatherer$Gathering", name := "handleEntry", desc := "()V" } : Jvm.MethodName) ∈ tables_1 := qr2 (List.mem_of_getElem? (i := 112) rfl)
theorem q353 : Jvm.Cond.selects "PoliteGatherer$Gathering" ({ cls := "PoliteGatherer$Gathering", name := "handleEntry", desc := "()V" } : Jvm.MethodName) ({ cls := "PoliteGatherer$Gathering", name := "handleEntry", desc := "()V" } : Jvm.MethodName) ∈ tables_1 := qr2 (List.mem_of_getElem? (i := 113) rfl)
theorem q354 : Jvm.Cond.code ({ cls := "PoliteGatherer$Gathering", name := "handleEntry", desc := "()V" } : Jvm.MethodName) prog_2_method_4_code (4 : Nat) (Option.none : Option Jvm.ClassFile.FieldType) ∈ tables_1 := qr2 (List.mem_of_getElem? (i := 114) rfl)
theorem q355 : Jvm.Cond.methodLink "PoliteGatherer$Gathering" (84 : Nat) ({ cls := "PoliteGatherer$Gathering", name := "chase", desc := "(IZ)I" } : Jvm.MethodName) ∈ tables_1 := qr2 (List.mem_of_getElem? (i := 115) rfl)
theorem q356 : Jvm.Cond.instanceMethod ({ cls := "PoliteGatherer$Gathering", name := "chase", desc := "(IZ)I" } : Jvm.MethodName) ∈ tables_1 := qr2 (List.mem_of_getElem? (i := 116) rfl)
theorem q357 : Jvm.Cond.selects "PoliteGatherer$Gathering" ({ cls := "PoliteGatherer$Gathering", name := "chase", desc := "(IZ)I" } : Jvm.MethodName) ({ cls := "PoliteGatherer$Gathering", name := "chase", desc := "(IZ)I" } : Jvm.MethodName) ∈ tables_1 := qr2 (List.mem_of_getElem? (i := 117) rfl)
theorem q358 : Jvm.Cond.code ({ cls := "PoliteGatherer$Gathering", name := "chase", desc := "(IZ)I" } : Jvm.MethodName) prog_2_method_5_code (6 : Nat) (Option.some Jvm.ClassFile.FieldType.int) ∈ tables_1 := qr2 (List.mem_of_getElem? (i := 118) rfl)
theorem q359 : Jvm.Cond.methodLink "PoliteGatherer$Gathering" (107 : Nat) ({ cls := "PoliteGatherer$Web", name := "isAllowed", desc := "(I)Z" } : Jvm.MethodName) ∈ tables_1 := qr2 (List.mem_of_getElem? (i := 119) rfl)
theorem q360 : Jvm.Cond.instanceMethod ({ cls := "PoliteGatherer$Web", name := "isAllowed", desc := "(I)Z" } : Jvm.MethodName) ∈ tables_1 := qr2 (List.mem_of_getElem? (i := 120) rfl)
theorem q361 : Jvm.Cond.selects "PoliteGatherer$Web" ({ cls := "PoliteGatherer$Web", name := "isAllowed", desc := "(I)Z" } : Jvm.MethodName) ({ cls := "PoliteGatherer$Web", name := "isAllowed", desc := "(I)Z" } : Jvm.MethodName) ∈ tables_1 := qr2 (List.mem_of_getElem? (i := 121) rfl)
theorem q362 : Jvm.Cond.code ({ cls := "PoliteGatherer$Web", name := "isAllowed", desc := "(I)Z" } : Jvm.MethodName) prog_8_method_5_code (2 : Nat) (Option.some Jvm.ClassFile.FieldType.boolean) ∈ tables_1 := qr2 (List.mem_of_getElem? (i := 122) rfl)
theorem q363 : Jvm.Cond.methodLink "PoliteGatherer$Web" (59 : Nat) ({ cls := "PoliteGatherer$Host", name := "allowsPath", desc := "(I)Z" } : Jvm.MethodName) ∈ tables_1 := qr2 (List.mem_of_getElem? (i := 123) rfl)
theorem q364 : Jvm.Cond.instanceMethod ({ cls := "PoliteGatherer$Host", name := "allowsPath", desc := "(I)Z" } : Jvm.MethodName) ∈ tables_1 := qr2 (List.mem_of_getElem? (i := 124) rfl)
theorem q365 : Jvm.Cond.selects "PoliteGatherer$Host" ({ cls := "PoliteGatherer$Host", name := "allowsPath", desc := "(I)Z" } : Jvm.MethodName) ({ cls := "PoliteGatherer$Host", name := "allowsPath", desc := "(I)Z" } : Jvm.MethodName) ∈ tables_1 := qr2 (List.mem_of_getElem? (i := 125) rfl)
theorem q366 : Jvm.Cond.code ({ cls := "PoliteGatherer$Host", name := "allowsPath", desc := "(I)Z" } : Jvm.MethodName) prog_3_method_3_code (6 : Nat) (Option.some Jvm.ClassFile.FieldType.boolean) ∈ tables_1 := qr2 (List.mem_of_getElem? (i := 126) rfl)
theorem q367 : Jvm.Cond.methodLink "PoliteGatherer$Host" (23 : Nat) ({ cls := "PoliteGatherer$Host", name := "isPrefix", desc := "(II)Z" } : Jvm.MethodName) ∈ tables_1 := qr2 (List.mem_of_getElem? (i := 127) rfl)
theorem q368 : Jvm.Cond.static ({ cls := "PoliteGatherer$Host", name := "isPrefix", desc := "(II)Z" } : Jvm.MethodName) ∈ tables_1 := qr2 (List.mem_of_getElem? (i := 128) rfl)
theorem q369 : Jvm.Cond.code ({ cls := "PoliteGatherer$Host", name := "isPrefix", desc := "(II)Z" } : Jvm.MethodName) prog_3_method_4_code (3 : Nat) (Option.some Jvm.ClassFile.FieldType.boolean) ∈ tables_1 := qr2 (List.mem_of_getElem? (i := 129) rfl)
theorem q370 : Jvm.Cond.methodLink "PoliteGatherer$Gathering" (110 : Nat) ({ cls := "PoliteGatherer$Gathering", name := "fetch", desc := "(I)V" } : Jvm.MethodName) ∈ tables_1 := qr2 (List.mem_of_getElem? (i := 130) rfl)
theorem q372 : Jvm.Cond.instanceMethod ({ cls := "PoliteGatherer$Gathering", name := "fetch", desc := "(I)V" } : Jvm.MethodName) ∈ tables_1 := qr2 (List.mem_of_getElem? (i := 132) rfl)
theorem q373 : Jvm.Cond.code ({ cls := "PoliteGatherer$Gathering", name := "fetch", desc := "(I)V" } : Jvm.MethodName) prog_2_method_7_code (4 : Nat) (Option.none : Option Jvm.ClassFile.FieldType) ∈ tables_1 := qr2 (List.mem_of_getElem? (i := 133) rfl)
theorem q374 : Jvm.Cond.methodLink "PoliteGatherer$Gathering" (140 : Nat) ({ cls := "java/lang/Math", name := "max", desc := "(II)I" } : Jvm.MethodName) ∈ tables_1 := qr2 (List.mem_of_getElem? (i := 134) rfl)
theorem q375 : Jvm.Cond.static ({ cls := "java/lang/Math", name := "max", desc := "(II)I" } : Jvm.MethodName) ∈ tables_1 := qr2 (List.mem_of_getElem? (i := 135) rfl)
theorem q376 : Jvm.Cond.code ({ cls := "java/lang/Math", name := "max", desc := "(II)I" } : Jvm.MethodName) prog_12_method_65_code (2 : Nat) (Option.some Jvm.ClassFile.FieldType.int) ∈ tables_1 := qr2 (List.mem_of_getElem? (i := 136) rfl)
theorem q377 : Jvm.Cond.fieldLink "PoliteGatherer$Gathering" (117 : Nat) "PoliteGatherer$Reply" "HERE" "LPoliteGatherer$Reply;" ∈ tables_1 := qr2 (List.mem_of_getElem? (i := 137) rfl)
theorem q378 : Jvm.Cond.fieldLink "PoliteGatherer$Gathering" (122 : Nat) "PoliteGatherer$Reply" "GONE" "LPoliteGatherer$Reply;" ∈ tables_1 := qr2 (List.mem_of_getElem? (i := 138) rfl)
theorem q379 : Jvm.Cond.methodLink "PoliteGathererLaw" (60 : Nat) ({ cls := "PoliteGatherer", name := "crash", desc := "()I" } : Jvm.MethodName) ∈ tables_1 := qr2 (List.mem_of_getElem? (i := 139) rfl)
theorem q380 : Jvm.Cond.instanceMethod ({ cls := "PoliteGatherer", name := "crash", desc := "()I" } : Jvm.MethodName) ∈ tables_1 := qr2 (List.mem_of_getElem? (i := 140) rfl)
theorem q381 : Jvm.Cond.selects "PoliteGatherer" ({ cls := "PoliteGatherer", name := "crash", desc := "()I" } : Jvm.MethodName) ({ cls := "PoliteGatherer", name := "crash", desc := "()I" } : Jvm.MethodName) ∈ tables_1 := qr2 (List.mem_of_getElem? (i := 141) rfl)
theorem q382 : Jvm.Cond.code ({ cls := "PoliteGatherer", name := "crash", desc := "()I" } : Jvm.MethodName) prog_1_method_12_code (1 : Nat) (Option.some Jvm.ClassFile.FieldType.int) ∈ tables_1 := qr2 (List.mem_of_getElem? (i := 142) rfl)
theorem q383 : Jvm.Cond.methodLink "PoliteGatherer" (121 : Nat) ({ cls := "PoliteGatherer$Gathering", name := "fallBack", desc := "()I" } : Jvm.MethodName) ∈ tables_1 := qr2 (List.mem_of_getElem? (i := 143) rfl)
theorem q384 : Jvm.Cond.instanceMethod ({ cls := "PoliteGatherer$Gathering", name := "fallBack", desc := "()I" } : Jvm.MethodName) ∈ tables_1 := qr2 (List.mem_of_getElem? (i := 144) rfl)
theorem q385 : Jvm.Cond.selects "PoliteGatherer$Gathering" ({ cls := "PoliteGatherer$Gathering", name := "fallBack", desc := "()I" } : Jvm.MethodName) ({ cls := "PoliteGatherer$Gathering", name := "fallBack", desc := "()I" } : Jvm.MethodName) ∈ tables_1 := qr2 (List.mem_of_getElem? (i := 145) rfl)
theorem q386 : Jvm.Cond.code ({ cls := "PoliteGatherer$Gathering", name := "fallBack", desc := "()I" } : Jvm.MethodName) prog_2_method_6_code (2 : Nat) (Option.some Jvm.ClassFile.FieldType.int) ∈ tables_1 := qr2 (List.mem_of_getElem? (i := 146) rfl)
theorem q387 : Jvm.Cond.methodLink "PoliteGathererLaw" (65 : Nat) ({ cls := "PoliteGatherer", name := "allowed", desc := "(I)Z" } : Jvm.MethodName) ∈ tables_1 := qr2 (List.mem_of_getElem? (i := 147) rfl)
theorem q388 : Jvm.Cond.instanceMethod ({ cls := "PoliteGatherer", name := "allowed", desc := "(I)Z" } : Jvm.MethodName) ∈ tables_1 := qr2 (List.mem_of_getElem? (i := 148) rfl)
theorem q389 : Jvm.Cond.selects "PoliteGatherer" ({ cls := "PoliteGatherer", name := "allowed", desc := "(I)Z" } : Jvm.MethodName) ({ cls := "PoliteGatherer", name := "allowed", desc := "(I)Z" } : Jvm.MethodName) ∈ tables_1 := qr2 (List.mem_of_getElem? (i := 149) rfl)
theorem q390 : Jvm.Cond.code ({ cls := "PoliteGatherer", name := "allowed", desc := "(I)Z" } : Jvm.MethodName) prog_1_method_13_code (2 : Nat) (Option.some Jvm.ClassFile.FieldType.boolean) ∈ tables_1 := qr2 (List.mem_of_getElem? (i := 150) rfl)
theorem q391 : Jvm.Cond.methodLink "PoliteGatherer" (124 : Nat) ({ cls := "PoliteGatherer$Web", name := "isAllowed", desc := "(I)Z" } : Jvm.MethodName) ∈ tables_1 := qr2 (List.mem_of_getElem? (i := 151) rfl)
theorem q392 : Jvm.Cond.methodLink "PoliteGathererLaw" (69 : Nat) ({ cls := "PoliteGatherer", name := "found", desc := "(I)I" } : Jvm.MethodName) ∈ tables_1 := qr2 (List.mem_of_getElem? (i := 152) rfl)
theorem q393 : Jvm.Cond.instanceMethod ({ cls := "PoliteGatherer", name := "found", desc := "(I)I" } : Jvm.MethodName) ∈ tables_1 := qr2 (List.mem_of_getElem? (i := 153) rfl)
theorem q394 : Jvm.Cond.selects "PoliteGatherer" ({ cls := "PoliteGatherer", name := "found", desc := "(I)I" } : Jvm.MethodName) ({ cls := "PoliteGatherer", name := "found", desc := "(I)I" } : Jvm.MethodName) ∈ tables_1 := qr2 (List.mem_of_getElem? (i := 154) rfl)
theorem q395 : Jvm.Cond.code ({ cls := "PoliteGatherer", name := "found", desc := "(I)I" } : Jvm.MethodName) prog_1_method_14_code (2 : Nat) (Option.some Jvm.ClassFile.FieldType.int) ∈ tables_1 := qr2 (List.mem_of_getElem? (i := 155) rfl)
theorem q396 : Jvm.Cond.methodLink "PoliteGatherer" (127 : Nat) ({ cls := "PoliteGatherer$Gathering", name := "chase", desc := "(IZ)I" } : Jvm.MethodName) ∈ tables_1 := qr2 (List.mem_of_getElem? (i := 156) rfl)
theorem q397 : Jvm.Cond.methodLink "PoliteGathererLaw" (73 : Nat) ({ cls := "PoliteGatherer", name := "clock", desc := "()I" } : Jvm.MethodName) ∈ tables_1 := qr2 (List.mem_of_getElem? (i := 157) rfl)
theorem q398 : Jvm.Cond.instanceMethod ({ cls := "PoliteGatherer", name := "clock", desc := "()I" } : Jvm.MethodName) ∈ tables_1 := qr2 (List.mem_of_getElem? (i := 158) rfl)
theorem q399 : Jvm.Cond.selects "PoliteGatherer" ({ cls := "PoliteGatherer", name := "clock", desc := "()I" } : Jvm.MethodName) ({ cls := "PoliteGatherer", name := "clock", desc := "()I" } : Jvm.MethodName) ∈ tables_1 := qr2 (List.mem_of_getElem? (i := 159) rfl)
theorem q400 : Jvm.Cond.code ({ cls := "PoliteGatherer", name := "clock", desc := "()I" } : Jvm.MethodName) prog_1_method_15_code (1 : Nat) (Option.some Jvm.ClassFile.FieldType.int) ∈ tables_1 := qr2 (List.mem_of_getElem? (i := 160) rfl)
theorem q401 : Jvm.Cond.methodLink "PoliteGathererLaw" (77 : Nat) ({ cls := "PoliteGatherer", name := "fetches", desc := "()I" } : Jvm.MethodName) ∈ tables_1 := qr2 (List.mem_of_getElem? (i := 161) rfl)
theorem q402 : Jvm.Cond.instanceMethod ({ cls := "PoliteGatherer", name := "fetches", desc := "()I" } : Jvm.MethodName) ∈ tables_1 := qr2 (List.mem_of_getElem? (i := 162) rfl)
theorem q403 : Jvm.Cond.selects "PoliteGatherer" ({ cls := "PoliteGatherer", name := "fetches", desc := "()I" } : Jvm.MethodName) ({ cls := "PoliteGatherer", name := "fetches", desc := "()I" } : Jvm.MethodName) ∈ tables_1 := qr2 (List.mem_of_getElem? (i := 163) rfl)
theorem q404 : Jvm.Cond.code ({ cls := "PoliteGatherer", name := "fetches", desc := "()I" } : Jvm.MethodName) prog_1_method_16_code (1 : Nat) (Option.some Jvm.ClassFile.FieldType.int) ∈ tables_1 := qr2 (List.mem_of_getElem? (i := 164) rfl)
theorem q405 : Jvm.Cond.methodLink "PoliteGathererLaw" (81 : Nat) ({ cls := "PoliteGatherer", name := "waiting", desc := "()I" } : Jvm.MethodName) ∈ tables_1 := qr2 (List.mem_of_getElem? (i := 165) rfl)
theorem q406 : Jvm.Cond.instanceMethod ({ cls := "PoliteGatherer", name := "waiting", desc := "()I" } : Jvm.MethodName) ∈ tables_1 := qr2 (List.mem_of_getElem? (i := 166) rfl)
theorem q407 : Jvm.Cond.selects "PoliteGatherer" ({ cls := "PoliteGatherer", name := "waiting", desc := "()I" } : Jvm.MethodName) ({ cls := "PoliteGatherer", name := "waiting", desc := "()I" } : Jvm.MethodName) ∈ tables_1 := qr2 (List.mem_of_getElem? (i := 167) rfl)
theorem q408 : Jvm.Cond.code ({ cls := "PoliteGatherer", name := "waiting", desc := "()I" } : Jvm.MethodName) prog_1_method_17_code (1 : Nat) (Option.some Jvm.ClassFile.FieldType.int) ∈ tables_1 := qr2 (List.mem_of_getElem? (i := 168) rfl)
theorem q409 : Jvm.Cond.methodLink "PoliteGathererLaw" (85 : Nat) ({ cls := "PoliteGatherer", name := "corpusAt", desc := "(I)I" } : Jvm.MethodName) ∈ tables_1 := qr2 (List.mem_of_getElem? (i := 169) rfl)
theorem q410 : Jvm.Cond.instanceMethod ({ cls := "PoliteGatherer", name := "corpusAt", desc := "(I)I" } : Jvm.MethodName) ∈ tables_1 := qr2 (List.mem_of_getElem? (i := 170) rfl)
theorem q411 : Jvm.Cond.selects "PoliteGatherer" ({ cls := "PoliteGatherer", name := "corpusAt", desc := "(I)I" } : Jvm.MethodName) ({ cls := "PoliteGatherer", name := "corpusAt", desc := "(I)I" } : Jvm.MethodName) ∈ tables_1 := qr2 (List.mem_of_getElem? (i := 171) rfl)
theorem q412 : Jvm.Cond.code ({ cls := "PoliteGatherer", name := "corpusAt", desc := "(I)I" } : Jvm.MethodName) prog_1_method_18_code (2 : Nat) (Option.some Jvm.ClassFile.FieldType.int) ∈ tables_1 := qr2 (List.mem_of_getElem? (i := 172) rfl)
theorem q413 : Jvm.Cond.methodLink "PoliteGatherer" (137 : Nat) ({ cls := "PoliteGatherer$Row", name := "at", desc := "(I)I" } : Jvm.MethodName) ∈ tables_1 := qr2 (List.mem_of_getElem? (i := 173) rfl)
theorem q414 : Jvm.Cond.methodLink "PoliteGathererLaw" (89 : Nat) ({ cls := "PoliteGatherer", name := "document", desc := "(I)I" } : Jvm.MethodName) ∈ tables_1 := qr2 (List.mem_of_getElem? (i := 174) rfl)
theorem q415 : Jvm.Cond.instanceMethod ({ cls := "PoliteGatherer", name := "document", desc := "(I)I" } : Jvm.MethodName) ∈ tables_1 := qr2 (List.mem_of_getElem? (i := 175) rfl)
theorem q416 : Jvm.Cond.selects "PoliteGatherer" ({ cls := "PoliteGatherer", name := "document", desc := "(I)I" } : Jvm.MethodName) ({ cls := "PoliteGatherer", name := "document", desc := "(I)I" } : Jvm.MethodName) ∈ tables_1 := qr2 (List.mem_of_getElem? (i := 176) rfl)
theorem q417 : Jvm.Cond.code ({ cls := "PoliteGatherer", name := "document", desc := "(I)I" } : Jvm.MethodName) prog_1_method_19_code (2 : Nat) (Option.some Jvm.ClassFile.FieldType.int) ∈ tables_1 := qr2 (List.mem_of_getElem? (i := 177) rfl)
theorem q418 : Jvm.Cond.methodLink "PoliteGatherer" (141 : Nat) ({ cls := "PoliteGatherer$Ranking", name := "documentOf", desc := "(I)I" } : Jvm.MethodName) ∈ tables_1 := qr2 (List.mem_of_getElem? (i := 178) rfl)
theorem q419 : Jvm.Cond.instanceMethod ({ cls := "PoliteGatherer$Ranking", name := "documentOf", desc := "(I)I" } : Jvm.MethodName) ∈ tables_1 := qr2 (List.mem_of_getElem? (i := 179) rfl)
theorem q420 : Jvm.Cond.selects "PoliteGatherer$Ranking" ({ cls := "PoliteGatherer$Ranking", name := "documentOf", desc := "(I)I" } : Jvm.MethodName) ({ cls := "PoliteGatherer$Ranking", name := "documentOf", desc := "(I)I" } : Jvm.MethodName) ∈ tables_1 := qr2 (List.mem_of_getElem? (i := 180) rfl)
theorem q421 : Jvm.Cond.code ({ cls := "PoliteGatherer$Ranking", name := "documentOf", desc := "(I)I" } : Jvm.MethodName) prog_5_method_2_code (5 : Nat) (Option.some Jvm.ClassFile.FieldType.int) ∈ tables_1 := qr2 (List.mem_of_getElem? (i := 181) rfl)
theorem q422 : Jvm.Cond.methodLink "PoliteGatherer$Ranking" (52 : Nat) ({ cls := "PoliteGatherer$Row", name := "holds", desc := "(I)Z" } : Jvm.MethodName) ∈ tables_1 := qr2 (List.mem_of_getElem? (i := 182) rfl)
theorem q423 : Jvm.Cond.methodLink "PoliteGatherer$Ranking" (71 : Nat) ({ cls := "PoliteGatherer$Row", name := "at", desc := "(I)I" } : Jvm.MethodName) ∈ tables_1 := qr2 (List.mem_of_getElem? (i := 183) rfl)
theorem q424 : Jvm.Cond.methodLink "PoliteGatherer$Ranking" (75 : Nat) ({ cls := "PoliteGatherer$Row", name := "sameAs", desc := "(LPoliteGatherer$Row;)Z" } : Jvm.MethodName) ∈ tables_1 := qr2 (List.mem_of_getElem? (i := 184) rfl)
theorem q425 : Jvm.Cond.instanceMethod ({ cls := "PoliteGatherer$Row", name := "sameAs", desc := "(LPoliteGatherer$Row;)Z" } : Jvm.MethodName) ∈ tables_1 := qr2 (List.mem_of_getElem? (i := 185) rfl)
theorem q426 : Jvm.Cond.selects "PoliteGatherer$Row" ({ cls := "PoliteGatherer$Row", name := "sameAs", desc := "(LPoliteGatherer$Row;)Z" } : Jvm.MethodName) ({ cls := "PoliteGatherer$Row", name := "sameAs", desc := "(LPoliteGatherer$Row;)Z" } : Jvm.MethodName) ∈ tables_1 := qr2 (List.mem_of_getElem? (i := 186) rfl)
theorem q427 : Jvm.Cond.code ({ cls := "PoliteGatherer$Row", name := "sameAs", desc := "(LPoliteGatherer$Row;)Z" } : Jvm.MethodName) prog_7_method_5_code (3 : Nat) (Option.some Jvm.ClassFile.FieldType.boolean) ∈ tables_1 := qr2 (List.mem_of_getElem? (i := 187) rfl)
theorem q428 : Jvm.Cond.methodLink "PoliteGathererLaw" (93 : Nat) ({ cls := "PoliteGatherer", name := "rank", desc := "(II)J" } : Jvm.MethodName) ∈ tables_1 := qr2 (List.mem_of_getElem? (i := 188) rfl)
theorem q429 : Jvm.Cond.instanceMethod ({ cls := "PoliteGatherer", name := "rank", desc := "(II)J" } : Jvm.MethodName) ∈ tables_1 := qr2 (List.mem_of_getElem? (i := 189) rfl)
theorem q430 : Jvm.Cond.selects "PoliteGatherer" ({ cls := "PoliteGatherer", name := "rank", desc := "(II)J" } : Jvm.MethodName) ({ cls := "PoliteGatherer", name := "rank", desc := "(II)J" } : Jvm.MethodName) ∈ tables_1 := qr2 (List.mem_of_getElem? (i := 190) rfl)
theorem q431 : Jvm.Cond.code ({ cls := "PoliteGatherer", name := "rank", desc := "(II)J" } : Jvm.MethodName) prog_1_method_20_code (3 : Nat) (Option.some Jvm.ClassFile.FieldType.long) ∈ tables_1 := qr2 (List.mem_of_getElem? (i := 191) rfl)
theorem q432 : Jvm.Cond.methodLink "PoliteGatherer" (144 : Nat) ({ cls := "PoliteGatherer$Ranking", name := "isDocument", desc := "(I)Z" } : Jvm.MethodName) ∈ tables_1 := qr2 (List.mem_of_getElem? (i := 192) rfl)
theorem q433 : Jvm.Cond.instanceMethod ({ cls := "PoliteGatherer$Ranking", name := "isDocument", desc := "(I)Z" } : Jvm.MethodName) ∈ tables_1 := qr2 (List.mem_of_getElem? (i := 193) rfl)
theorem q434 : Jvm.Cond.selects "PoliteGatherer$Ranking" ({ cls := "PoliteGatherer$Ranking", name := "isDocument", desc := "(I)Z" } : Jvm.MethodName) ({ cls := "PoliteGatherer$Ranking", name := "isDocument", desc := "(I)Z" } : Jvm.MethodName) ∈ tables_1 := qr2 (List.mem_of_getElem? (i := 194) rfl)
theorem q435 : Jvm.Cond.code ({ cls := "PoliteGatherer$Ranking", name := "isDocument", desc := "(I)Z" } : Jvm.MethodName) prog_5_method_3_code (2 : Nat) (Option.some Jvm.ClassFile.FieldType.boolean) ∈ tables_1 := qr2 (List.mem_of_getElem? (i := 195) rfl)
theorem q436 : Jvm.Cond.methodLink "PoliteGatherer$Ranking" (79 : Nat) ({ cls := "PoliteGatherer$Ranking", name := "documentOf", desc := "(I)I" } : Jvm.MethodName) ∈ tables_1 := qr2 (List.mem_of_getElem? (i := 196) rfl)
theorem q437 : Jvm.Cond.methodLink "PoliteGatherer" (147 : Nat) ({ cls := "PoliteGatherer$Ranking", name := "computeRanks", desc := "(I)V" } : Jvm.MethodName) ∈ tables_1 := qr2 (List.mem_of_getElem? (i := 197) rfl)
theorem q438 : Jvm.Cond.instanceMethod ({ cls := "PoliteGatherer$Ranking", name := "computeRanks", desc := "(I)V" } : Jvm.MethodName) ∈ tables_1 := qr2 (List.mem_of_getElem? (i := 198) rfl)
theorem q439 : Jvm.Cond.selects "PoliteGatherer$Ranking" ({ cls := "PoliteGatherer$Ranking", name := "computeRanks", desc := "(I)V" } : Jvm.MethodName) ({ cls := "PoliteGatherer$Ranking", name := "computeRanks", desc := "(I)V" } : Jvm.MethodName) ∈ tables_1 := qr2 (List.mem_of_getElem? (i := 199) rfl)
theorem q440 : Jvm.Cond.code ({ cls := "PoliteGatherer$Ranking", name := "computeRanks", desc := "(I)V" } : Jvm.MethodName) prog_5_method_4_code (4 : Nat) (Option.none : Option Jvm.ClassFile.FieldType) ∈ tables_1 := qr2 (List.mem_of_getElem? (i := 200) rfl)
theorem q441 : Jvm.Cond.methodLink "PoliteGatherer$Ranking" (82 : Nat) ({ cls := "PoliteGatherer$Ranking", name := "listDocuments", desc := "()V" } : Jvm.MethodName) ∈ tables_1 := qr2 (List.mem_of_getElem? (i := 201) rfl)
theorem q443 : Jvm.Cond.instanceMethod ({ cls := "PoliteGatherer$Ranking", name := "listDocuments", desc := "()V" } : Jvm.MethodName) ∈ tables_1 := qr2 (List.mem_of_getElem? (i := 203) rfl)
theorem q444 : Jvm.Cond.code ({ cls := "PoliteGatherer$Ranking", name := "listDocuments", desc := "()V" } : Jvm.MethodName) prog_5_method_7_code (3 : Nat) (Option.none : Option Jvm.ClassFile.FieldType) ∈ tables_1 := qr2 (List.mem_of_getElem? (i := 204) rfl)
theorem q445 : Jvm.Cond.methodLink "PoliteGatherer$Ranking" (100 : Nat) ({ cls := "PoliteGatherer$Row", name := "cutTo", desc := "(I)V" } : Jvm.MethodName) ∈ tables_1 := qr2 (List.mem_of_getElem? (i := 205) rfl)
theorem q446 : Jvm.Cond.methodLink "PoliteGatherer$Ranking" (103 : Nat) ({ cls := "PoliteGatherer$Ranking", name := "isDocument", desc := "(I)Z" } : Jvm.MethodName) ∈ tables_1 := qr2 (List.mem_of_getElem? (i := 206) rfl)
theorem q447 : Jvm.Cond.methodLink "PoliteGatherer$Ranking" (106 : Nat) ({ cls := "PoliteGatherer$Row", name := "add", desc := "(I)Z" } : Jvm.MethodName) ∈ tables_1 := qr2 (List.mem_of_getElem? (i := 207) rfl)
theorem q448 : Jvm.Cond.constantLong "PoliteGatherer$Ranking" (85 : Nat) (1000000 : Int64) ∈ tables_1 := qr2 (List.mem_of_getElem? (i := 208) rfl)
theorem q449 : Jvm.Cond.methodLink "PoliteGatherer$Ranking" (87 : Nat) ({ cls := "PoliteGatherer$Ranking", name := "followLinks", desc := "(I)V" } : Jvm.MethodName) ∈ tables_1 := qr2 (List.mem_of_getElem? (i := 209) rfl)
theorem q451 : Jvm.Cond.instanceMethod ({ cls := "PoliteGatherer$Ranking", name := "followLinks", desc := "(I)V" } : Jvm.MethodName) ∈ tables_1 := qr2 (List.mem_of_getElem? (i := 211) rfl)
theorem q452 : Jvm.Cond.code ({ cls := "PoliteGatherer$Ranking", name := "followLinks", desc := "(I)V" } : Jvm.MethodName) prog_5_method_8_code (5 : Nat) (Option.none : Option Jvm.ClassFile.FieldType) ∈ tables_1 := qr2 (List.mem_of_getElem? (i := 212) rfl)
theorem q453 : Jvm.Cond.methodLink "PoliteGatherer$Ranking" (112 : Nat) ({ cls := "PoliteGatherer$Gathering", name := "chase", desc := "(IZ)I" } : Jvm.MethodName) ∈ tables_1 := qr2 (List.mem_of_getElem? (i := 213) rfl)
theorem q454 : Jvm.Cond.methodLink "PoliteGatherer$Ranking" (90 : Nat) ({ cls := "PoliteGatherer$Ranking", name := "playRound", desc := "()V" } : Jvm.MethodName) ∈ tables_1 := qr2 (List.mem_of_getElem? (i := 214) rfl)
theorem q456 : Jvm.Cond.instanceMethod ({ cls := "PoliteGatherer$Ranking", name := "playRound", desc := "()V" } : Jvm.MethodName) ∈ tables_1 := qr2 (List.mem_of_getElem? (i := 216) rfl)
theorem q457 : Jvm.Cond.code ({ cls := "PoliteGatherer$Ranking", name := "playRound", desc := "()V" } : Jvm.MethodName) prog_5_method_9_code (3 : Nat) (Option.none : Option Jvm.ClassFile.FieldType) ∈ tables_1 := qr2 (List.mem_of_getElem? (i := 217) rfl)
theorem q458 : Jvm.Cond.methodLink "PoliteGatherer$Ranking" (116 : Nat) ({ cls := "PoliteGatherer$Ranking", name := "passOn", desc := "(I)V" } : Jvm.MethodName) ∈ tables_1 := qr2 (List.mem_of_getElem? (i := 218) rfl)
theorem q460 : Jvm.Cond.instanceMethod ({ cls := "PoliteGatherer$Ranking", name := "passOn", desc := "(I)V" } : Jvm.MethodName) ∈ tables_1 := qr2 (List.mem_of_getElem? (i := 220) rfl)
theorem q461 : Jvm.Cond.code ({ cls := "PoliteGatherer$Ranking", name := "passOn", desc := "(I)V" } : Jvm.MethodName) prog_5_method_10_code (6 : Nat) (Option.none : Option Jvm.ClassFile.FieldType) ∈ tables_1 := qr2 (List.mem_of_getElem? (i := 221) rfl)
theorem q462 : Jvm.Cond.constantLong "PoliteGatherer$Ranking" (119 : Nat) (150000 : Int64) ∈ tables_1 := qr2 (List.mem_of_getElem? (i := 222) rfl)
theorem q463 : Jvm.Cond.constantLong "PoliteGatherer$Ranking" (121 : Nat) (85 : Int64) ∈ tables_1 := qr2 (List.mem_of_getElem? (i := 223) rfl)
theorem q464 : Jvm.Cond.constantLong "PoliteGatherer$Ranking" (123 : Nat) (100 : Int64) ∈ tables_1 := qr2 (List.mem_of_getElem? (i := 224) rfl)
theorem q465 : Jvm.Cond.methodLink "PoliteGathererLaw" (98 : Nat) ({ cls := "PoliteGatherer", name := "best", desc := "(III)I" } : Jvm.MethodName) ∈ tables_1 := qr2 (List.mem_of_getElem? (i := 225) rfl)
theorem q466 : Jvm.Cond.instanceMethod ({ cls := "PoliteGatherer", name := "best", desc := "(III)I" } : Jvm.MethodName) ∈ tables_1 := qr2 (List.mem_of_getElem? (i := 226) rfl)
theorem q467 : Jvm.Cond.selects "PoliteGatherer" ({ cls := "PoliteGatherer", name := "best", desc := "(III)I" } : Jvm.MethodName) ({ cls := "PoliteGatherer", name := "best", desc := "(III)I" } : Jvm.MethodName) ∈ tables_1 := qr2 (List.mem_of_getElem? (i := 227) rfl)
theorem q468 : Jvm.Cond.code ({ cls := "PoliteGatherer", name := "best", desc := "(III)I" } : Jvm.MethodName) prog_1_method_21_code (4 : Nat) (Option.some Jvm.ClassFile.FieldType.int) ∈ tables_1 := qr2 (List.mem_of_getElem? (i := 228) rfl)
theorem q469 : Jvm.Cond.methodLink "PoliteGatherer" (155 : Nat) ({ cls := "PoliteGatherer$Ranking", name := "computeScores", desc := "(II)V" } : Jvm.MethodName) ∈ tables_1 := qr2 (List.mem_of_getElem? (i := 229) rfl)
theorem q470 : Jvm.Cond.instanceMethod ({ cls := "PoliteGatherer$Ranking", name := "computeScores", desc := "(II)V" } : Jvm.MethodName) ∈ tables_1 := qr2 (List.mem_of_getElem? (i := 230) rfl)
theorem q471 : Jvm.Cond.selects "PoliteGatherer$Ranking" ({ cls := "PoliteGatherer$Ranking", name := "computeScores", desc := "(II)V" } : Jvm.MethodName) ({ cls := "PoliteGatherer$Ranking", name := "computeScores", desc := "(II)V" } : Jvm.MethodName) ∈ tables_1 := qr2 (List.mem_of_getElem? (i := 231) rfl)
theorem q472 : Jvm.Cond.code ({ cls := "PoliteGatherer$Ranking", name := "computeScores", desc := "(II)V" } : Jvm.MethodName) prog_5_method_5_code (5 : Nat) (Option.none : Option Jvm.ClassFile.FieldType) ∈ tables_1 := qr2 (List.mem_of_getElem? (i := 232) rfl)
theorem q473 : Jvm.Cond.methodLink "PoliteGatherer$Ranking" (93 : Nat) ({ cls := "PoliteGatherer$Page", name := "placesOf", desc := "(II)I" } : Jvm.MethodName) ∈ tables_1 := qr2 (List.mem_of_getElem? (i := 233) rfl)
theorem q474 : Jvm.Cond.instanceMethod ({ cls := "PoliteGatherer$Page", name := "placesOf", desc := "(II)I" } : Jvm.MethodName) ∈ tables_1 := qr2 (List.mem_of_getElem? (i := 234) rfl)
theorem q475 : Jvm.Cond.selects "PoliteGatherer$Page" ({ cls := "PoliteGatherer$Page", name := "placesOf", desc := "(II)I" } : Jvm.MethodName) ({ cls := "PoliteGatherer$Page", name := "placesOf", desc := "(II)I" } : Jvm.MethodName) ∈ tables_1 := qr2 (List.mem_of_getElem? (i := 235) rfl)
theorem q476 : Jvm.Cond.code ({ cls := "PoliteGatherer$Page", name := "placesOf", desc := "(II)I" } : Jvm.MethodName) prog_4_method_3_code (6 : Nat) (Option.some Jvm.ClassFile.FieldType.int) ∈ tables_1 := qr2 (List.mem_of_getElem? (i := 236) rfl)
theorem q477 : Jvm.Cond.methodLink "PoliteGatherer$Page" (45 : Nat) ({ cls := "PoliteGatherer$Row", name := "at", desc := "(I)I" } : Jvm.MethodName) ∈ tables_1 := qr2 (List.mem_of_getElem? (i := 237) rfl)
theorem q478 : Jvm.Cond.methodLink "PoliteGatherer" (159 : Nat) ({ cls := "PoliteGatherer$Ranking", name := "documentAtPlace", desc := "(I)I" } : Jvm.MethodName) ∈ tables_1 := qr2 (List.mem_of_getElem? (i := 238) rfl)
theorem q479 : Jvm.Cond.instanceMethod ({ cls := "PoliteGatherer$Ranking", name := "documentAtPlace", desc := "(I)I" } : Jvm.MethodName) ∈ tables_1 := qr2 (List.mem_of_getElem? (i := 239) rfl)
theorem q480 : Jvm.Cond.selects "PoliteGatherer$Ranking" ({ cls := "PoliteGatherer$Ranking", name := "documentAtPlace", desc := "(I)I" } : Jvm.MethodName) ({ cls := "PoliteGatherer$Ranking", name := "documentAtPlace", desc := "(I)I" } : Jvm.MethodName) ∈ tables_1 := qr3 (List.mem_of_getElem? (i := 0) rfl)
theorem q481 : Jvm.Cond.code ({ cls := "PoliteGatherer$Ranking", name := "documentAtPlace", desc := "(I)I" } : Jvm.MethodName) prog_5_method_6_code (4 : Nat) (Option.some Jvm.ClassFile.FieldType.int) ∈ tables_1 := qr3 (List.mem_of_getElem? (i := 1) rfl)
theorem q482 : Jvm.Cond.methodLink "PoliteGatherer$Ranking" (97 : Nat) ({ cls := "PoliteGatherer$Ranking", name := "placeOf", desc := "(I)I" } : Jvm.MethodName) ∈ tables_1 := qr3 (List.mem_of_getElem? (i := 2) rfl)
theorem q484 : Jvm.Cond.instanceMethod ({ cls := "PoliteGatherer$Ranking", name := "placeOf", desc := "(I)I" } : Jvm.MethodName) ∈ tables_1 := qr3 (List.mem_of_getElem? (i := 4) rfl)
theorem q485 : Jvm.Cond.code ({ cls := "PoliteGatherer$Ranking", name := "placeOf", desc := "(I)I" } : Jvm.MethodName) prog_5_method_11_code (4 : Nat) (Option.some Jvm.ClassFile.FieldType.int) ∈ tables_1 := qr3 (List.mem_of_getElem? (i := 5) rfl)
theorem q486 : Jvm.Cond.methodLink "PoliteGatherer$Ranking" (125 : Nat) ({ cls := "PoliteGatherer$Ranking", name := "standsBefore", desc := "(II)Z" } : Jvm.MethodName) ∈ tables_1 := qr3 (List.mem_of_getElem? (i := 6) rfl)
theorem q488 : Jvm.Cond.instanceMethod ({ cls := "PoliteGatherer$Ranking", name := "standsBefore", desc := "(II)Z" } : Jvm.MethodName) ∈ tables_1 := qr3 (List.mem_of_getElem? (i := 8) rfl)
theorem q489 : Jvm.Cond.code ({ cls := "PoliteGatherer$Ranking", name := "standsBefore", desc := "(II)Z" } : Jvm.MethodName) prog_5_method_12_code (3 : Nat) (Option.some Jvm.ClassFile.FieldType.boolean) ∈ tables_1 := qr3 (List.mem_of_getElem? (i := 9) rfl)
theorem q490 : Jvm.Cond.methodLink "PoliteGatherer$Ranking" (129 : Nat) ({ cls := "PoliteGatherer$Page", name := "comesBefore", desc := "(LPoliteGatherer$Page;)Z" } : Jvm.MethodName) ∈ tables_1 := qr3 (List.mem_of_getElem? (i := 10) rfl)
theorem q491 : Jvm.Cond.instanceMethod ({ cls := "PoliteGatherer$Page", name := "comesBefore", desc := "(LPoliteGatherer$Page;)Z" } : Jvm.MethodName) ∈ tables_1 := qr3 (List.mem_of_getElem? (i := 11) rfl)
theorem q492 : Jvm.Cond.selects "PoliteGatherer$Page" ({ cls := "PoliteGatherer$Page", name := "comesBefore", desc := "(LPoliteGatherer$Page;)Z" } : Jvm.MethodName) ({ cls := "PoliteGatherer$Page", name := "comesBefore", desc := "(LPoliteGatherer$Page;)Z" } : Jvm.MethodName) ∈ tables_1 := qr3 (List.mem_of_getElem? (i := 12) rfl)
theorem q493 : Jvm.Cond.code ({ cls := "PoliteGatherer$Page", name := "comesBefore", desc := "(LPoliteGatherer$Page;)Z" } : Jvm.MethodName) prog_4_method_2_code (2 : Nat) (Option.some Jvm.ClassFile.FieldType.boolean) ∈ tables_1 := qr3 (List.mem_of_getElem? (i := 13) rfl)
theorem q494 : Jvm.Cond.classLink "PoliteGathererLaw" (10 : Nat) "PoliteGathererModel" ∈ tables_1 := qr3 (List.mem_of_getElem? (i := 14) rfl)
theorem q495 : Jvm.Cond.instantiable "PoliteGathererModel" (37 : Nat) ∈ tables_1 := qr3 (List.mem_of_getElem? (i := 15) rfl)
theorem q496 : Jvm.Cond.methodLink "PoliteGathererLaw" (12 : Nat) ({ cls := "PoliteGathererModel", name := "<init>", desc := "()V" } : Jvm.MethodName) ∈ tables_1 := qr3 (List.mem_of_getElem? (i := 16) rfl)
theorem q497 : Jvm.Cond.instanceMethod ({ cls := "PoliteGathererModel", name := "<init>", desc := "()V" } : Jvm.MethodName) ∈ tables_1 := qr3 (List.mem_of_getElem? (i := 17) rfl)
theorem q498 : Jvm.Cond.code ({ cls := "PoliteGathererModel", name := "<init>", desc := "()V" } : Jvm.MethodName) prog_10_method_1_code (1 : Nat) (Option.none : Option Jvm.ClassFile.FieldType) ∈ tables_1 := qr3 (List.mem_of_getElem? (i := 18) rfl)
theorem q499 : Jvm.Cond.methodLink "PoliteGathererModel" (1 : Nat) ({ cls := "java/lang/Object", name := "<init>", desc := "()V" } : Jvm.MethodName) ∈ tables_1 := qr3 (List.mem_of_getElem? (i := 19) rfl)
theorem q500 : Jvm.Cond.fieldLink "PoliteGathererModel" (69 : Nat) "PoliteGathererModel" "pages" "I" ∈ tables_1 := qr3 (List.mem_of_getElem? (i := 20) rfl)
theorem q501 : Jvm.Cond.fieldLink "PoliteGathererModel" (7 : Nat) "PoliteGathererModel" "host" "[I" ∈ tables_1 := qr3 (List.mem_of_getElem? (i := 21) rfl)
theorem q502 : Jvm.Cond.fieldLink "PoliteGathererModel" (13 : Nat) "PoliteGathererModel" "path" "[I" ∈ tables_1 := qr3 (List.mem_of_getElem? (i := 22) rfl)
theorem q503 : Jvm.Cond.fieldLink "PoliteGathererModel" (16 : Nat) "PoliteGathererModel" "reply" "[I" ∈ tables_1 := qr3 (List.mem_of_getElem? (i := 23) rfl)
theorem q504 : Jvm.Cond.fieldLink "PoliteGathererModel" (19 : Nat) "PoliteGathererModel" "words" "[I" ∈ tables_1 := qr3 (List.mem_of_getElem? (i := 24) rfl)
theorem q505 : Jvm.Cond.fieldLink "PoliteGathererModel" (22 : Nat) "PoliteGathererModel" "wordCount" "[I" ∈ tables_1 := qr3 (List.mem_of_getElem? (i := 25) rfl)
theorem q506 : Jvm.Cond.fieldLink "PoliteGathererModel" (25 : Nat) "PoliteGathererModel" "goes" "[I" ∈ tables_1 := qr3 (List.mem_of_getElem? (i := 26) rfl)
theorem q507 : Jvm.Cond.fieldLink "PoliteGathererModel" (28 : Nat) "PoliteGathererModel" "linkCount" "[I" ∈ tables_1 := qr3 (List.mem_of_getElem? (i := 27) rfl)
theorem q508 : Jvm.Cond.fieldLink "PoliteGathererModel" (31 : Nat) "PoliteGathererModel" "prefixes" "[I" ∈ tables_1 := qr3 (List.mem_of_getElem? (i := 28) rfl)
theorem q509 : Jvm.Cond.fieldLink "PoliteGathererModel" (34 : Nat) "PoliteGathererModel" "allowing" "[Z" ∈ tables_1 := qr3 (List.mem_of_getElem? (i := 29) rfl)
theorem q510 : Jvm.Cond.fieldLink "PoliteGathererModel" (38 : Nat) "PoliteGathererModel" "ruleCount" "[I" ∈ tables_1 := qr3 (List.mem_of_getElem? (i := 30) rfl)
theorem q511 : Jvm.Cond.fieldLink "PoliteGathererModel" (41 : Nat) "PoliteGathererModel" "starts" "[I" ∈ tables_1 := qr3 (List.mem_of_getElem? (i := 31) rfl)
theorem q512 : Jvm.Cond.fieldLink "PoliteGathererModel" (82 : Nat) "PoliteGathererModel" "startCount" "I" ∈ tables_1 := qr3 (List.mem_of_getElem? (i := 32) rfl)
theorem q513 : Jvm.Cond.fieldLink "PoliteGathererModel" (73 : Nat) "PoliteGathererModel" "on" "Z" ∈ tables_1 := qr3 (List.mem_of_getElem? (i := 33) rfl)
theorem q514 : Jvm.Cond.fieldLink "PoliteGathererModel" (131 : Nat) "PoliteGathererModel" "limit" "I" ∈ tables_1 := qr3 (List.mem_of_getElem? (i := 34) rfl)
theorem q515 : Jvm.Cond.fieldLink "PoliteGathererModel" (111 : Nat) "PoliteGathererModel" "hops" "I" ∈ tables_1 := qr3 (List.mem_of_getElem? (i := 35) rfl)
theorem q516 : Jvm.Cond.fieldLink "PoliteGathererModel" (98 : Nat) "PoliteGathererModel" "delay" "I" ∈ tables_1 := qr3 (List.mem_of_getElem? (i := 36) rfl)
theorem q517 : Jvm.Cond.fieldLink "PoliteGathererModel" (141 : Nat) "PoliteGathererModel" "every" "I" ∈ tables_1 := qr3 (List.mem_of_getElem? (i := 37) rfl)
theorem q518 : Jvm.Cond.fieldLink "PoliteGathererModel" (44 : Nat) "PoliteGathererModel" "entryPage" "[I" ∈ tables_1 := qr3 (List.mem_of_getElem? (i := 38) rfl)
theorem q519 : Jvm.Cond.fieldLink "PoliteGathererModel" (47 : Nat) "PoliteGathererModel" "entryDepth" "[I" ∈ tables_1 := qr3 (List.mem_of_getElem? (i := 39) rfl)
theorem q520 : Jvm.Cond.fieldLink "PoliteGathererModel" (120 : Nat) "PoliteGathererModel" "head" "I" ∈ tables_1 := qr3 (List.mem_of_getElem? (i := 40) rfl)
theorem q521 : Jvm.Cond.fieldLink "PoliteGathererModel" (117 : Nat) "PoliteGathererModel" "queued" "I" ∈ tables_1 := qr3 (List.mem_of_getElem? (i := 41) rfl)
theorem q522 : Jvm.Cond.fieldLink "PoliteGathererModel" (50 : Nat) "PoliteGathererModel" "fetchedPages" "[I" ∈ tables_1 := qr3 (List.mem_of_getElem? (i := 42) rfl)
theorem q523 : Jvm.Cond.fieldLink "PoliteGathererModel" (89 : Nat) "PoliteGathererModel" "fetched" "I" ∈ tables_1 := qr3 (List.mem_of_getElem? (i := 43) rfl)
theorem q524 : Jvm.Cond.fieldLink "PoliteGathererModel" (53 : Nat) "PoliteGathererModel" "corpus" "[I" ∈ tables_1 := qr3 (List.mem_of_getElem? (i := 44) rfl)
theorem q525 : Jvm.Cond.fieldLink "PoliteGathererModel" (114 : Nat) "PoliteGathererModel" "gathered" "I" ∈ tables_1 := qr3 (List.mem_of_getElem? (i := 45) rfl)
theorem q526 : Jvm.Cond.fieldLink "PoliteGathererModel" (95 : Nat) "PoliteGathererModel" "now" "I" ∈ tables_1 := qr3 (List.mem_of_getElem? (i := 46) rfl)
theorem q527 : Jvm.Cond.fieldLink "PoliteGathererModel" (56 : Nat) "PoliteGathererModel" "from" "[I" ∈ tables_1 := qr3 (List.mem_of_getElem? (i := 47) rfl)
theorem q528 : Jvm.Cond.fieldLink "PoliteGathererModel" (101 : Nat) "PoliteGathererModel" "total" "I" ∈ tables_1 := qr3 (List.mem_of_getElem? (i := 48) rfl)
theorem q529 : Jvm.Cond.fieldLink "PoliteGathererModel" (147 : Nat) "PoliteGathererModel" "markHead" "I" ∈ tables_1 := qr3 (List.mem_of_getElem? (i := 49) rfl)
theorem q530 : Jvm.Cond.fieldLink "PoliteGathererModel" (150 : Nat) "PoliteGathererModel" "markQueued" "I" ∈ tables_1 := qr3 (List.mem_of_getElem? (i := 50) rfl)
theorem q531 : Jvm.Cond.fieldLink "PoliteGathererModel" (153 : Nat) "PoliteGathererModel" "markFetched" "I" ∈ tables_1 := qr3 (List.mem_of_getElem? (i := 51) rfl)
theorem q532 : Jvm.Cond.fieldLink "PoliteGathererModel" (156 : Nat) "PoliteGathererModel" "markGathered" "I" ∈ tables_1 := qr3 (List.mem_of_getElem? (i := 52) rfl)
theorem q533 : Jvm.Cond.fieldLink "PoliteGathererModel" (138 : Nat) "PoliteGathererModel" "since" "I" ∈ tables_1 := qr3 (List.mem_of_getElem? (i := 53) rfl)
theorem q534 : Jvm.Cond.fieldLink "PoliteGathererModel" (59 : Nat) "PoliteGathererModel" "leads" "[I" ∈ tables_1 := qr3 (List.mem_of_getElem? (i := 54) rfl)
theorem q535 : Jvm.Cond.fieldLink "PoliteGathererModel" (62 : Nat) "PoliteGathererModel" "ranks" "[J" ∈ tables_1 := qr3 (List.mem_of_getElem? (i := 55) rfl)
theorem q536 : Jvm.Cond.fieldLink "PoliteGathererModel" (66 : Nat) "PoliteGathererModel" "before" "[J" ∈ tables_1 := qr3 (List.mem_of_getElem? (i := 56) rfl)
theorem q537 : Jvm.Cond.lays "PoliteGathererModel" "PoliteGathererModel" "pages" "I" ∈ tables_1 := qr3 (List.mem_of_getElem? (i := 57) rfl)
theorem q539 : Jvm.Cond.laysFinal "PoliteGathererModel" "PoliteGathererModel" "host" "[I" ∈ tables_1 := qr3 (List.mem_of_getElem? (i := 59) rfl)
theorem q541 : Jvm.Cond.laysFinal "PoliteGathererModel" "PoliteGathererModel" "path" "[I" ∈ tables_1 := qr3 (List.mem_of_getElem? (i := 61) rfl)
theorem q543 : Jvm.Cond.laysFinal "PoliteGathererModel" "PoliteGathererModel" "reply" "[I" ∈ tables_1 := qr3 (List.mem_of_getElem? (i := 63) rfl)
theorem q545 : Jvm.Cond.laysFinal "PoliteGathererModel" "PoliteGathererModel" "words" "[I" ∈ tables_1 := qr3 (List.mem_of_getElem? (i := 65) rfl)
theorem q547 : Jvm.Cond.laysFinal "PoliteGathererModel" "PoliteGathererModel" "wordCount" "[I" ∈ tables_1 := qr3 (List.mem_of_getElem? (i := 67) rfl)
theorem q549 : Jvm.Cond.laysFinal "PoliteGathererModel" "PoliteGathererModel" "goes" "[I" ∈ tables_1 := qr3 (List.mem_of_getElem? (i := 69) rfl)
theorem q551 : Jvm.Cond.laysFinal "PoliteGathererModel" "PoliteGathererModel" "linkCount" "[I" ∈ tables_1 := qr3 (List.mem_of_getElem? (i := 71) rfl)
theorem q553 : Jvm.Cond.laysFinal "PoliteGathererModel" "PoliteGathererModel" "prefixes" "[I" ∈ tables_1 := qr3 (List.mem_of_getElem? (i := 73) rfl)
theorem q555 : Jvm.Cond.laysFinal "PoliteGathererModel" "PoliteGathererModel" "allowing" "[Z" ∈ tables_1 := qr3 (List.mem_of_getElem? (i := 75) rfl)
theorem q557 : Jvm.Cond.laysFinal "PoliteGathererModel" "PoliteGathererModel" "ruleCount" "[I" ∈ tables_1 := qr3 (List.mem_of_getElem? (i := 77) rfl)
theorem q559 : Jvm.Cond.laysFinal "PoliteGathererModel" "PoliteGathererModel" "starts" "[I" ∈ tables_1 := qr3 (List.mem_of_getElem? (i := 79) rfl)
theorem q561 : Jvm.Cond.lays "PoliteGathererModel" "PoliteGathererModel" "startCount" "I" ∈ tables_1 := qr3 (List.mem_of_getElem? (i := 81) rfl)
theorem q563 : Jvm.Cond.lays "PoliteGathererModel" "PoliteGathererModel" "on" "Z" ∈ tables_1 := qr3 (List.mem_of_getElem? (i := 83) rfl)
theorem q565 : Jvm.Cond.lays "PoliteGathererModel" "PoliteGathererModel" "limit" "I" ∈ tables_1 := qr3 (List.mem_of_getElem? (i := 85) rfl)
theorem q567 : Jvm.Cond.lays "PoliteGathererModel" "PoliteGathererModel" "hops" "I" ∈ tables_1 := qr3 (List.mem_of_getElem? (i := 87) rfl)
theorem q569 : Jvm.Cond.lays "PoliteGathererModel" "PoliteGathererModel" "delay" "I" ∈ tables_1 := qr3 (List.mem_of_getElem? (i := 89) rfl)
theorem q571 : Jvm.Cond.lays "PoliteGathererModel" "PoliteGathererModel" "every" "I" ∈ tables_1 := qr3 (List.mem_of_getElem? (i := 91) rfl)
theorem q573 : Jvm.Cond.laysFinal "PoliteGathererModel" "PoliteGathererModel" "entryPage" "[I" ∈ tables_1 := qr3 (List.mem_of_getElem? (i := 93) rfl)
theorem q575 : Jvm.Cond.laysFinal "PoliteGathererModel" "PoliteGathererModel" "entryDepth" "[I" ∈ tables_1 := qr3 (List.mem_of_getElem? (i := 95) rfl)
theorem q577 : Jvm.Cond.lays "PoliteGathererModel" "PoliteGathererModel" "head" "I" ∈ tables_1 := qr3 (List.mem_of_getElem? (i := 97) rfl)
theorem q579 : Jvm.Cond.lays "PoliteGathererModel" "PoliteGathererModel" "queued" "I" ∈ tables_1 := qr3 (List.mem_of_getElem? (i := 99) rfl)
theorem q581 : Jvm.Cond.laysFinal "PoliteGathererModel" "PoliteGathererModel" "fetchedPages" "[I" ∈ tables_1 := qr3 (List.mem_of_getElem? (i := 101) rfl)
theorem q583 : Jvm.Cond.lays "PoliteGathererModel" "PoliteGathererModel" "fetched" "I" ∈ tables_1 := qr3 (List.mem_of_getElem? (i := 103) rfl)
theorem q585 : Jvm.Cond.laysFinal "PoliteGathererModel" "PoliteGathererModel" "corpus" "[I" ∈ tables_1 := qr3 (List.mem_of_getElem? (i := 105) rfl)
theorem q587 : Jvm.Cond.lays "PoliteGathererModel" "PoliteGathererModel" "gathered" "I" ∈ tables_1 := qr3 (List.mem_of_getElem? (i := 107) rfl)
theorem q589 : Jvm.Cond.lays "PoliteGathererModel" "PoliteGathererModel" "now" "I" ∈ tables_1 := qr3 (List.mem_of_getElem? (i := 109) rfl)
theorem q591 : Jvm.Cond.laysFinal "PoliteGathererModel" "PoliteGathererModel" "from" "[I" ∈ tables_1 := qr3 (List.mem_of_getElem? (i := 111) rfl)
theorem q593 : Jvm.Cond.lays "PoliteGathererModel" "PoliteGathererModel" "total" "I" ∈ tables_1 := qr3 (List.mem_of_getElem? (i := 113) rfl)
theorem q595 : Jvm.Cond.lays "PoliteGathererModel" "PoliteGathererModel" "markHead" "I" ∈ tables_1 := qr3 (List.mem_of_getElem? (i := 115) rfl)
theorem q597 : Jvm.Cond.lays "PoliteGathererModel" "PoliteGathererModel" "markQueued" "I" ∈ tables_1 := qr3 (List.mem_of_getElem? (i := 117) rfl)
theorem q599 : Jvm.Cond.lays "PoliteGathererModel" "PoliteGathererModel" "markFetched" "I" ∈ tables_1 := qr3 (List.mem_of_getElem? (i := 119) rfl)
theorem q601 : Jvm.Cond.lays "PoliteGathererModel" "PoliteGathererModel" "markGathered" "I" ∈ tables_1 := qr3 (List.mem_of_getElem? (i := 121) rfl)
theorem q603 : Jvm.Cond.lays "PoliteGathererModel" "PoliteGathererModel" "since" "I" ∈ tables_1 := qr3 (List.mem_of_getElem? (i := 123) rfl)
theorem q605 : Jvm.Cond.laysFinal "PoliteGathererModel" "PoliteGathererModel" "leads" "[I" ∈ tables_1 := qr3 (List.mem_of_getElem? (i := 125) rfl)
theorem q607 : Jvm.Cond.laysFinal "PoliteGathererModel" "PoliteGathererModel" "ranks" "[J" ∈ tables_1 := qr3 (List.mem_of_getElem? (i := 127) rfl)
theorem q609 : Jvm.Cond.laysFinal "PoliteGathererModel" "PoliteGathererModel" "before" "[J" ∈ tables_1 := qr3 (List.mem_of_getElem? (i := 129) rfl)
theorem q612 : Jvm.Cond.methodLink "PoliteGathererLaw" (17 : Nat) ({ cls := "PoliteGathererModel", name := "page", desc := "(II)I" } : Jvm.MethodName) ∈ tables_1 := qr3 (List.mem_of_getElem? (i := 132) rfl)
theorem q613 : Jvm.Cond.instanceMethod ({ cls := "PoliteGathererModel", name := "page", desc := "(II)I" } : Jvm.MethodName) ∈ tables_1 := qr3 (List.mem_of_getElem? (i := 133) rfl)
theorem q614 : Jvm.Cond.selects "PoliteGathererModel" ({ cls := "PoliteGathererModel", name := "page", desc := "(II)I" } : Jvm.MethodName) ({ cls := "PoliteGathererModel", name := "page", desc := "(II)I" } : Jvm.MethodName) ∈ tables_1 := qr3 (List.mem_of_getElem? (i := 134) rfl)
theorem q615 : Jvm.Cond.code ({ cls := "PoliteGathererModel", name := "page", desc := "(II)I" } : Jvm.MethodName) prog_10_method_3_code (4 : Nat) (Option.some Jvm.ClassFile.FieldType.int) ∈ tables_1 := qr3 (List.mem_of_getElem? (i := 135) rfl)
theorem q616 : Jvm.Cond.constant "PoliteGathererModel" (77 : Nat) (999999 : Int32) ∈ tables_1 := qr3 (List.mem_of_getElem? (i := 136) rfl)
theorem q617 : Jvm.Cond.methodLink "PoliteGathererLaw" (22 : Nat) ({ cls := "PoliteGathererModel", name := "write", desc := "(II)Z" } : Jvm.MethodName) ∈ tables_1 := qr3 (List.mem_of_getElem? (i := 137) rfl)
theorem q618 : Jvm.Cond.instanceMethod ({ cls := "PoliteGathererModel", name := "write", desc := "(II)Z" } : Jvm.MethodName) ∈ tables_1 := qr3 (List.mem_of_getElem? (i := 138) rfl)
theorem q619 : Jvm.Cond.selects "PoliteGathererModel" ({ cls := "PoliteGathererModel", name := "write", desc := "(II)Z" } : Jvm.MethodName) ({ cls := "PoliteGathererModel", name := "write", desc := "(II)Z" } : Jvm.MethodName) ∈ tables_1 := qr3 (List.mem_of_getElem? (i := 139) rfl)
theorem q620 : Jvm.Cond.code ({ cls := "PoliteGathererModel", name := "write", desc := "(II)Z" } : Jvm.MethodName) prog_10_method_4_code (3 : Nat) (Option.some Jvm.ClassFile.FieldType.boolean) ∈ tables_1 := qr3 (List.mem_of_getElem? (i := 140) rfl)
theorem q621 : Jvm.Cond.methodLink "PoliteGathererModel" (78 : Nat) ({ cls := "PoliteGathererModel", name := "isPage", desc := "(I)Z" } : Jvm.MethodName) ∈ tables_1 := qr3 (List.mem_of_getElem? (i := 141) rfl)
theorem q623 : Jvm.Cond.instanceMethod ({ cls := "PoliteGathererModel", name := "isPage", desc := "(I)Z" } : Jvm.MethodName) ∈ tables_1 := qr3 (List.mem_of_getElem? (i := 143) rfl)
theorem q624 : Jvm.Cond.code ({ cls := "PoliteGathererModel", name := "isPage", desc := "(I)Z" } : Jvm.MethodName) prog_10_method_2_code (2 : Nat) (Option.some Jvm.ClassFile.FieldType.boolean) ∈ tables_1 := qr3 (List.mem_of_getElem? (i := 144) rfl)
theorem q625 : Jvm.Cond.methodLink "PoliteGathererLaw" (26 : Nat) ({ cls := "PoliteGathererModel", name := "link", desc := "(II)Z" } : Jvm.MethodName) ∈ tables_1 := qr3 (List.mem_of_getElem? (i := 145) rfl)
theorem q626 : Jvm.Cond.instanceMethod ({ cls := "PoliteGathererModel", name := "link", desc := "(II)Z" } : Jvm.MethodName) ∈ tables_1 := qr3 (List.mem_of_getElem? (i := 146) rfl)
theorem q627 : Jvm.Cond.selects "PoliteGathererModel" ({ cls := "PoliteGathererModel", name := "link", desc := "(II)Z" } : Jvm.MethodName) ({ cls := "PoliteGathererModel", name := "link", desc := "(II)Z" } : Jvm.MethodName) ∈ tables_1 := qr3 (List.mem_of_getElem? (i := 147) rfl)
theorem q628 : Jvm.Cond.code ({ cls := "PoliteGathererModel", name := "link", desc := "(II)Z" } : Jvm.MethodName) prog_10_method_5_code (3 : Nat) (Option.some Jvm.ClassFile.FieldType.boolean) ∈ tables_1 := qr3 (List.mem_of_getElem? (i := 148) rfl)
theorem q629 : Jvm.Cond.methodLink "PoliteGathererLaw" (30 : Nat) ({ cls := "PoliteGathererModel", name := "move", desc := "(II)Z" } : Jvm.MethodName) ∈ tables_1 := qr3 (List.mem_of_getElem? (i := 149) rfl)
theorem q630 : Jvm.Cond.instanceMethod ({ cls := "PoliteGathererModel", name := "move", desc := "(II)Z" } : Jvm.MethodName) ∈ tables_1 := qr3 (List.mem_of_getElem? (i := 150) rfl)
theorem q631 : Jvm.Cond.selects "PoliteGathererModel" ({ cls := "PoliteGathererModel", name := "move", desc := "(II)Z" } : Jvm.MethodName) ({ cls := "PoliteGathererModel", name := "move", desc := "(II)Z" } : Jvm.MethodName) ∈ tables_1 := qr3 (List.mem_of_getElem? (i := 151) rfl)
theorem q632 : Jvm.Cond.code ({ cls := "PoliteGathererModel", name := "move", desc := "(II)Z" } : Jvm.MethodName) prog_10_method_6_code (3 : Nat) (Option.some Jvm.ClassFile.FieldType.boolean) ∈ tables_1 := qr3 (List.mem_of_getElem? (i := 152) rfl)
theorem q633 : Jvm.Cond.methodLink "PoliteGathererLaw" (35 : Nat) ({ cls := "PoliteGathererModel", name := "drop", desc := "(I)Z" } : Jvm.MethodName) ∈ tables_1 := qr3 (List.mem_of_getElem? (i := 153) rfl)
theorem q634 : Jvm.Cond.instanceMethod ({ cls := "PoliteGathererModel", name := "drop", desc := "(I)Z" } : Jvm.MethodName) ∈ tables_1 := qr3 (List.mem_of_getElem? (i := 154) rfl)
theorem q635 : Jvm.Cond.selects "PoliteGathererModel" ({ cls := "PoliteGathererModel", name := "drop", desc := "(I)Z" } : Jvm.MethodName) ({ cls := "PoliteGathererModel", name := "drop", desc := "(I)Z" } : Jvm.MethodName) ∈ tables_1 := qr3 (List.mem_of_getElem? (i := 155) rfl)
theorem q636 : Jvm.Cond.code ({ cls := "PoliteGathererModel", name := "drop", desc := "(I)Z" } : Jvm.MethodName) prog_10_method_7_code (2 : Nat) (Option.some Jvm.ClassFile.FieldType.boolean) ∈ tables_1 := qr3 (List.mem_of_getElem? (i := 156) rfl)
theorem q637 : Jvm.Cond.methodLink "PoliteGathererLaw" (40 : Nat) ({ cls := "PoliteGathererModel", name := "rule", desc := "(IIZ)Z" } : Jvm.MethodName) ∈ tables_1 := qr3 (List.mem_of_getElem? (i := 157) rfl)
theorem q638 : Jvm.Cond.instanceMethod ({ cls := "PoliteGathererModel", name := "rule", desc := "(IIZ)Z" } : Jvm.MethodName) ∈ tables_1 := qr3 (List.mem_of_getElem? (i := 158) rfl)
theorem q639 : Jvm.Cond.selects "PoliteGathererModel" ({ cls := "PoliteGathererModel", name := "rule", desc := "(IIZ)Z" } : Jvm.MethodName) ({ cls := "PoliteGathererModel", name := "rule", desc := "(IIZ)Z" } : Jvm.MethodName) ∈ tables_1 := qr3 (List.mem_of_getElem? (i := 159) rfl)
theorem q640 : Jvm.Cond.code ({ cls := "PoliteGathererModel", name := "rule", desc := "(IIZ)Z" } : Jvm.MethodName) prog_10_method_8_code (4 : Nat) (Option.some Jvm.ClassFile.FieldType.boolean) ∈ tables_1 := qr3 (List.mem_of_getElem? (i := 160) rfl)
theorem q641 : Jvm.Cond.methodLink "PoliteGathererLaw" (44 : Nat) ({ cls := "PoliteGathererModel", name := "first", desc := "(I)Z" } : Jvm.MethodName) ∈ tables_1 := qr3 (List.mem_of_getElem? (i := 161) rfl)
theorem q642 : Jvm.Cond.instanceMethod ({ cls := "PoliteGathererModel", name := "first", desc := "(I)Z" } : Jvm.MethodName) ∈ tables_1 := qr3 (List.mem_of_getElem? (i := 162) rfl)
theorem q643 : Jvm.Cond.selects "PoliteGathererModel" ({ cls := "PoliteGathererModel", name := "first", desc := "(I)Z" } : Jvm.MethodName) ({ cls := "PoliteGathererModel", name := "first", desc := "(I)Z" } : Jvm.MethodName) ∈ tables_1 := qr3 (List.mem_of_getElem? (i := 163) rfl)
theorem q644 : Jvm.Cond.code ({ cls := "PoliteGathererModel", name := "first", desc := "(I)Z" } : Jvm.MethodName) prog_10_method_9_code (2 : Nat) (Option.some Jvm.ClassFile.FieldType.boolean) ∈ tables_1 := qr3 (List.mem_of_getElem? (i := 164) rfl)
theorem q645 : Jvm.Cond.methodLink "PoliteGathererLaw" (68 : Nat) ({ cls := "PoliteGathererModel", name := "allowed", desc := "(I)Z" } : Jvm.MethodName) ∈ tables_1 := qr3 (List.mem_of_getElem? (i := 165) rfl)
theorem q646 : Jvm.Cond.instanceMethod ({ cls := "PoliteGathererModel", name := "allowed", desc := "(I)Z" } : Jvm.MethodName) ∈ tables_1 := qr3 (List.mem_of_getElem? (i := 166) rfl)
theorem q647 : Jvm.Cond.selects "PoliteGathererModel" ({ cls := "PoliteGathererModel", name := "allowed", desc := "(I)Z" } : Jvm.MethodName) ({ cls := "PoliteGathererModel", name := "allowed", desc := "(I)Z" } : Jvm.MethodName) ∈ tables_1 := qr3 (List.mem_of_getElem? (i := 167) rfl)
theorem q648 : Jvm.Cond.code ({ cls := "PoliteGathererModel", name := "allowed", desc := "(I)Z" } : Jvm.MethodName) prog_10_method_11_code (7 : Nat) (Option.some Jvm.ClassFile.FieldType.boolean) ∈ tables_1 := qr3 (List.mem_of_getElem? (i := 168) rfl)
theorem q649 : Jvm.Cond.methodLink "PoliteGathererModel" (85 : Nat) ({ cls := "PoliteGathererModel", name := "taken", desc := "(II)I" } : Jvm.MethodName) ∈ tables_1 := qr3 (List.mem_of_getElem? (i := 169) rfl)
theorem q651 : Jvm.Cond.instanceMethod ({ cls := "PoliteGathererModel", name := "taken", desc := "(II)I" } : Jvm.MethodName) ∈ tables_1 := qr3 (List.mem_of_getElem? (i := 171) rfl)
theorem q652 : Jvm.Cond.code ({ cls := "PoliteGathererModel", name := "taken", desc := "(II)I" } : Jvm.MethodName) prog_10_method_10_code (5 : Nat) (Option.some Jvm.ClassFile.FieldType.int) ∈ tables_1 := qr3 (List.mem_of_getElem? (i := 172) rfl)
theorem q653 : Jvm.Cond.methodLink "PoliteGathererLaw" (49 : Nat) ({ cls := "PoliteGathererModel", name := "begin", desc := "(IIII)Z" } : Jvm.MethodName) ∈ tables_1 := qr3 (List.mem_of_getElem? (i := 173) rfl)
theorem q654 : Jvm.Cond.instanceMethod ({ cls := "PoliteGathererModel", name := "begin", desc := "(IIII)Z" } : Jvm.MethodName) ∈ tables_1 := qr3 (List.mem_of_getElem? (i := 174) rfl)
theorem q655 : Jvm.Cond.selects "PoliteGathererModel" ({ cls := "PoliteGathererModel", name := "begin", desc := "(IIII)Z" } : Jvm.MethodName) ({ cls := "PoliteGathererModel", name := "begin", desc := "(IIII)Z" } : Jvm.MethodName) ∈ tables_1 := qr3 (List.mem_of_getElem? (i := 175) rfl)
theorem q656 : Jvm.Cond.code ({ cls := "PoliteGathererModel", name := "begin", desc := "(IIII)Z" } : Jvm.MethodName) prog_10_method_19_code (6 : Nat) (Option.some Jvm.ClassFile.FieldType.boolean) ∈ tables_1 := qr3 (List.mem_of_getElem? (i := 176) rfl)
theorem q657 : Jvm.Cond.methodLink "PoliteGathererModel" (134 : Nat) ({ cls := "PoliteGathererModel", name := "queue", desc := "(II)V" } : Jvm.MethodName) ∈ tables_1 := qr3 (List.mem_of_getElem? (i := 177) rfl)
theorem q659 : Jvm.Cond.instanceMethod ({ cls := "PoliteGathererModel", name := "queue", desc := "(II)V" } : Jvm.MethodName) ∈ tables_1 := qr3 (List.mem_of_getElem? (i := 179) rfl)
theorem q660 : Jvm.Cond.code ({ cls := "PoliteGathererModel", name := "queue", desc := "(II)V" } : Jvm.MethodName) prog_10_method_16_code (4 : Nat) (Option.none : Option Jvm.ClassFile.FieldType) ∈ tables_1 := qr3 (List.mem_of_getElem? (i := 180) rfl)
theorem q661 : Jvm.Cond.methodLink "PoliteGathererModel" (144 : Nat) ({ cls := "PoliteGathererModel", name := "mark", desc := "()V" } : Jvm.MethodName) ∈ tables_1 := qr3 (List.mem_of_getElem? (i := 181) rfl)
theorem q663 : Jvm.Cond.instanceMethod ({ cls := "PoliteGathererModel", name := "mark", desc := "()V" } : Jvm.MethodName) ∈ tables_1 := qr3 (List.mem_of_getElem? (i := 183) rfl)
theorem q664 : Jvm.Cond.code ({ cls := "PoliteGathererModel", name := "mark", desc := "()V" } : Jvm.MethodName) prog_10_method_18_code (1 : Nat) (Option.none : Option Jvm.ClassFile.FieldType) ∈ tables_1 := qr3 (List.mem_of_getElem? (i := 184) rfl)
theorem q665 : Jvm.Cond.methodLink "PoliteGathererLaw" (54 : Nat) ({ cls := "PoliteGathererModel", name := "stop", desc := "()Z" } : Jvm.MethodName) ∈ tables_1 := qr3 (List.mem_of_getElem? (i := 185) rfl)
theorem q666 : Jvm.Cond.instanceMethod ({ cls := "PoliteGathererModel", name := "stop", desc := "()Z" } : Jvm.MethodName) ∈ tables_1 := qr3 (List.mem_of_getElem? (i := 186) rfl)
theorem q667 : Jvm.Cond.selects "PoliteGathererModel" ({ cls := "PoliteGathererModel", name := "stop", desc := "()Z" } : Jvm.MethodName) ({ cls := "PoliteGathererModel", name := "stop", desc := "()Z" } : Jvm.MethodName) ∈ tables_1 := qr3 (List.mem_of_getElem? (i := 187) rfl)
theorem q668 : Jvm.Cond.code ({ cls := "PoliteGathererModel", name := "stop", desc := "()Z" } : Jvm.MethodName) prog_10_method_20_code (2 : Nat) (Option.some Jvm.ClassFile.FieldType.boolean) ∈ tables_1 := qr3 (List.mem_of_getElem? (i := 188) rfl)
theorem q669 : Jvm.Cond.methodLink "PoliteGathererLaw" (59 : Nat) ({ cls := "PoliteGathererModel", name := "work", desc := "(I)I" } : Jvm.MethodName) ∈ tables_1 := qr3 (List.mem_of_getElem? (i := 189) rfl)
theorem q670 : Jvm.Cond.instanceMethod ({ cls := "PoliteGathererModel", name := "work", desc := "(I)I" } : Jvm.MethodName) ∈ tables_1 := qr3 (List.mem_of_getElem? (i := 190) rfl)
theorem q671 : Jvm.Cond.selects "PoliteGathererModel" ({ cls := "PoliteGathererModel", name := "work", desc := "(I)I" } : Jvm.MethodName) ({ cls := "PoliteGathererModel", name := "work", desc := "(I)I" } : Jvm.MethodName) ∈ tables_1 := qr3 (List.mem_of_getElem? (i := 191) rfl)
theorem q672 : Jvm.Cond.code ({ cls := "PoliteGathererModel", name := "work", desc := "(I)I" } : Jvm.MethodName) prog_10_method_21_code (4 : Nat) (Option.some Jvm.ClassFile.FieldType.int) ∈ tables_1 := qr3 (List.mem_of_getElem? (i := 192) rfl)
theorem q673 : Jvm.Cond.methodLink "PoliteGathererModel" (159 : Nat) ({ cls := "PoliteGathererModel", name := "handle", desc := "()V" } : Jvm.MethodName) ∈ tables_1 := qr3 (List.mem_of_getElem? (i := 193) rfl)
theorem q675 : Jvm.Cond.instanceMethod ({ cls := "PoliteGathererModel", name := "handle", desc := "()V" } : Jvm.MethodName) ∈ tables_1 := qr3 (List.mem_of_getElem? (i := 195) rfl)
theorem q676 : Jvm.Cond.code ({ cls := "PoliteGathererModel", name := "handle", desc := "()V" } : Jvm.MethodName) prog_10_method_17_code (5 : Nat) (Option.none : Option Jvm.ClassFile.FieldType) ∈ tables_1 := qr3 (List.mem_of_getElem? (i := 196) rfl)
theorem q677 : Jvm.Cond.methodLink "PoliteGathererModel" (123 : Nat) ({ cls := "PoliteGathererModel", name := "chase", desc := "(IZ)I" } : Jvm.MethodName) ∈ tables_1 := qr3 (List.mem_of_getElem? (i := 197) rfl)
theorem q679 : Jvm.Cond.instanceMethod ({ cls := "PoliteGathererModel", name := "chase", desc := "(IZ)I" } : Jvm.MethodName) ∈ tables_1 := qr3 (List.mem_of_getElem? (i := 199) rfl)
theorem q680 : Jvm.Cond.code ({ cls := "PoliteGathererModel", name := "chase", desc := "(IZ)I" } : Jvm.MethodName) prog_10_method_14_code (5 : Nat) (Option.some Jvm.ClassFile.FieldType.int) ∈ tables_1 := qr3 (List.mem_of_getElem? (i := 200) rfl)
theorem q681 : Jvm.Cond.methodLink "PoliteGathererModel" (104 : Nat) ({ cls := "PoliteGathererModel", name := "allowed", desc := "(I)Z" } : Jvm.MethodName) ∈ tables_1 := qr3 (List.mem_of_getElem? (i := 201) rfl)
theorem q682 : Jvm.Cond.methodLink "PoliteGathererModel" (107 : Nat) ({ cls := "PoliteGathererModel", name := "fetch", desc := "(I)V" } : Jvm.MethodName) ∈ tables_1 := qr3 (List.mem_of_getElem? (i := 202) rfl)
theorem q684 : Jvm.Cond.instanceMethod ({ cls := "PoliteGathererModel", name := "fetch", desc := "(I)V" } : Jvm.MethodName) ∈ tables_1 := qr3 (List.mem_of_getElem? (i := 204) rfl)
theorem q685 : Jvm.Cond.code ({ cls := "PoliteGathererModel", name := "fetch", desc := "(I)V" } : Jvm.MethodName) prog_10_method_13_code (4 : Nat) (Option.none : Option Jvm.ClassFile.FieldType) ∈ tables_1 := qr3 (List.mem_of_getElem? (i := 205) rfl)
theorem q686 : Jvm.Cond.methodLink "PoliteGathererModel" (92 : Nat) ({ cls := "PoliteGathererModel", name := "isFetched", desc := "(I)Z" } : Jvm.MethodName) ∈ tables_1 := qr3 (List.mem_of_getElem? (i := 206) rfl)
theorem q688 : Jvm.Cond.instanceMethod ({ cls := "PoliteGathererModel", name := "isFetched", desc := "(I)Z" } : Jvm.MethodName) ∈ tables_1 := qr3 (List.mem_of_getElem? (i := 208) rfl)
theorem q689 : Jvm.Cond.code ({ cls := "PoliteGathererModel", name := "isFetched", desc := "(I)Z" } : Jvm.MethodName) prog_10_method_12_code (4 : Nat) (Option.some Jvm.ClassFile.FieldType.boolean) ∈ tables_1 := qr3 (List.mem_of_getElem? (i := 209) rfl)
theorem q690 : Jvm.Cond.methodLink "PoliteGathererModel" (127 : Nat) ({ cls := "PoliteGathererModel", name := "placeInCorpus", desc := "(I)I" } : Jvm.MethodName) ∈ tables_1 := qr3 (List.mem_of_getElem? (i := 210) rfl)
theorem q692 : Jvm.Cond.instanceMethod ({ cls := "PoliteGathererModel", name := "placeInCorpus", desc := "(I)I" } : Jvm.MethodName) ∈ tables_1 := qr3 (List.mem_of_getElem? (i := 212) rfl)
theorem q693 : Jvm.Cond.code ({ cls := "PoliteGathererModel", name := "placeInCorpus", desc := "(I)I" } : Jvm.MethodName) prog_10_method_15_code (4 : Nat) (Option.some Jvm.ClassFile.FieldType.int) ∈ tables_1 := qr3 (List.mem_of_getElem? (i := 213) rfl)
theorem q694 : Jvm.Cond.methodLink "PoliteGathererLaw" (64 : Nat) ({ cls := "PoliteGathererModel", name := "crash", desc := "()I" } : Jvm.MethodName) ∈ tables_1 := qr3 (List.mem_of_getElem? (i := 214) rfl)
theorem q695 : Jvm.Cond.instanceMethod ({ cls := "PoliteGathererModel", name := "crash", desc := "()I" } : Jvm.MethodName) ∈ tables_1 := qr3 (List.mem_of_getElem? (i := 215) rfl)
theorem q696 : Jvm.Cond.selects "PoliteGathererModel" ({ cls := "PoliteGathererModel", name := "crash", desc := "()I" } : Jvm.MethodName) ({ cls := "PoliteGathererModel", name := "crash", desc := "()I" } : Jvm.MethodName) ∈ tables_1 := qr3 (List.mem_of_getElem? (i := 216) rfl)
theorem q697 : Jvm.Cond.code ({ cls := "PoliteGathererModel", name := "crash", desc := "()I" } : Jvm.MethodName) prog_10_method_22_code (3 : Nat) (Option.some Jvm.ClassFile.FieldType.int) ∈ tables_1 := qr3 (List.mem_of_getElem? (i := 217) rfl)
theorem q698 : Jvm.Cond.methodLink "PoliteGathererLaw" (72 : Nat) ({ cls := "PoliteGathererModel", name := "found", desc := "(I)I" } : Jvm.MethodName) ∈ tables_1 := qr3 (List.mem_of_getElem? (i := 218) rfl)
theorem q699 : Jvm.Cond.instanceMethod ({ cls := "PoliteGathererModel", name := "found", desc := "(I)I" } : Jvm.MethodName) ∈ tables_1 := qr3 (List.mem_of_getElem? (i := 219) rfl)
theorem q700 : Jvm.Cond.selects "PoliteGathererModel" ({ cls := "PoliteGathererModel", name := "found", desc := "(I)I" } : Jvm.MethodName) ({ cls := "PoliteGathererModel", name := "found", desc := "(I)I" } : Jvm.MethodName) ∈ tables_1 := qr3 (List.mem_of_getElem? (i := 220) rfl)
theorem q701 : Jvm.Cond.code ({ cls := "PoliteGathererModel", name := "found", desc := "(I)I" } : Jvm.MethodName) prog_10_method_23_code (2 : Nat) (Option.some Jvm.ClassFile.FieldType.int) ∈ tables_1 := qr3 (List.mem_of_getElem? (i := 221) rfl)
theorem q702 : Jvm.Cond.methodLink "PoliteGathererLaw" (76 : Nat) ({ cls := "PoliteGathererModel", name := "clock", desc := "()I" } : Jvm.MethodName) ∈ tables_1 := qr3 (List.mem_of_getElem? (i := 222) rfl)
theorem q703 : Jvm.Cond.instanceMethod ({ cls := "PoliteGathererModel", name := "clock", desc := "()I" } : Jvm.MethodName) ∈ tables_1 := qr3 (List.mem_of_getElem? (i := 223) rfl)
theorem q704 : Jvm.Cond.selects "PoliteGathererModel" ({ cls := "PoliteGathererModel", name := "clock", desc := "()I" } : Jvm.MethodName) ({ cls := "PoliteGathererModel", name := "clock", desc := "()I" } : Jvm.MethodName) ∈ tables_1 := qr3 (List.mem_of_getElem? (i := 224) rfl)
theorem q705 : Jvm.Cond.code ({ cls := "PoliteGathererModel", name := "clock", desc := "()I" } : Jvm.MethodName) prog_10_method_24_code (1 : Nat) (Option.some Jvm.ClassFile.FieldType.int) ∈ tables_1 := qr3 (List.mem_of_getElem? (i := 225) rfl)
theorem q706 : Jvm.Cond.methodLink "PoliteGathererLaw" (80 : Nat) ({ cls := "PoliteGathererModel", name := "fetches", desc := "()I" } : Jvm.MethodName) ∈ tables_1 := qr3 (List.mem_of_getElem? (i := 226) rfl)
theorem q707 : Jvm.Cond.instanceMethod ({ cls := "PoliteGathererModel", name := "fetches", desc := "()I" } : Jvm.MethodName) ∈ tables_1 := qr3 (List.mem_of_getElem? (i := 227) rfl)
theorem q708 : Jvm.Cond.selects "PoliteGathererModel" ({ cls := "PoliteGathererModel", name := "fetches", desc := "()I" } : Jvm.MethodName) ({ cls := "PoliteGathererModel", name := "fetches", desc := "()I" } : Jvm.MethodName) ∈ tables_1 := qr3 (List.mem_of_getElem? (i := 228) rfl)
theorem q709 : Jvm.Cond.code ({ cls := "PoliteGathererModel", name := "fetches", desc := "()I" } : Jvm.MethodName) prog_10_method_25_code (1 : Nat) (Option.some Jvm.ClassFile.FieldType.int) ∈ tables_1 := qr3 (List.mem_of_getElem? (i := 229) rfl)
theorem q710 : Jvm.Cond.methodLink "PoliteGathererLaw" (84 : Nat) ({ cls := "PoliteGathererModel", name := "waiting", desc := "()I" } : Jvm.MethodName) ∈ tables_1 := qr3 (List.mem_of_getElem? (i := 230) rfl)
theorem q711 : Jvm.Cond.instanceMethod ({ cls := "PoliteGathererModel", name := "waiting", desc := "()I" } : Jvm.MethodName) ∈ tables_1 := qr3 (List.mem_of_getElem? (i := 231) rfl)
theorem q712 : Jvm.Cond.selects "PoliteGathererModel" ({ cls := "PoliteGathererModel", name := "waiting", desc := "()I" } : Jvm.MethodName) ({ cls := "PoliteGathererModel", name := "waiting", desc := "()I" } : Jvm.MethodName) ∈ tables_1 := qr3 (List.mem_of_getElem? (i := 232) rfl)
theorem q713 : Jvm.Cond.code ({ cls := "PoliteGathererModel", name := "waiting", desc := "()I" } : Jvm.MethodName) prog_10_method_26_code (1 : Nat) (Option.some Jvm.ClassFile.FieldType.int) ∈ tables_1 := qr3 (List.mem_of_getElem? (i := 233) rfl)
theorem q714 : Jvm.Cond.methodLink "PoliteGathererLaw" (88 : Nat) ({ cls := "PoliteGathererModel", name := "corpusAt", desc := "(I)I" } : Jvm.MethodName) ∈ tables_1 := qr3 (List.mem_of_getElem? (i := 234) rfl)
theorem q715 : Jvm.Cond.instanceMethod ({ cls := "PoliteGathererModel", name := "corpusAt", desc := "(I)I" } : Jvm.MethodName) ∈ tables_1 := qr3 (List.mem_of_getElem? (i := 235) rfl)
theorem q716 : Jvm.Cond.selects "PoliteGathererModel" ({ cls := "PoliteGathererModel", name := "corpusAt", desc := "(I)I" } : Jvm.MethodName) ({ cls := "PoliteGathererModel", name := "corpusAt", desc := "(I)I" } : Jvm.MethodName) ∈ tables_1 := qr3 (List.mem_of_getElem? (i := 236) rfl)
theorem q717 : Jvm.Cond.code ({ cls := "PoliteGathererModel", name := "corpusAt", desc := "(I)I" } : Jvm.MethodName) prog_10_method_27_code (2 : Nat) (Option.some Jvm.ClassFile.FieldType.int) ∈ tables_1 := qr3 (List.mem_of_getElem? (i := 237) rfl)
theorem q718 : Jvm.Cond.methodLink "PoliteGathererLaw" (92 : Nat) ({ cls := "PoliteGathererModel", name := "document", desc := "(I)I" } : Jvm.MethodName) ∈ tables_1 := qr3 (List.mem_of_getElem? (i := 238) rfl)
theorem q719 : Jvm.Cond.instanceMethod ({ cls := "PoliteGathererModel", name := "document", desc := "(I)I" } : Jvm.MethodName) ∈ tables_1 := qr3 (List.mem_of_getElem? (i := 239) rfl)
theorem q720 : Jvm.Cond.selects "PoliteGathererModel" ({ cls := "PoliteGathererModel", name := "document", desc := "(I)I" } : Jvm.MethodName) ({ cls := "PoliteGathererModel", name := "document", desc := "(I)I" } : Jvm.MethodName) ∈ tables_1 := qr4 (List.mem_of_getElem? (i := 0) rfl)
theorem q721 : Jvm.Cond.code ({ cls := "PoliteGathererModel", name := "document", desc := "(I)I" } : Jvm.MethodName) prog_10_method_29_code (3 : Nat) (Option.some Jvm.ClassFile.FieldType.int) ∈ tables_1 := qr4 (List.mem_of_getElem? (i := 1) rfl)
theorem q722 : Jvm.Cond.methodLink "PoliteGathererModel" (162 : Nat) ({ cls := "PoliteGathererModel", name := "sameBody", desc := "(II)Z" } : Jvm.MethodName) ∈ tables_1 := qr4 (List.mem_of_getElem? (i := 2) rfl)
theorem q724 : Jvm.Cond.instanceMethod ({ cls := "PoliteGathererModel", name := "sameBody", desc := "(II)Z" } : Jvm.MethodName) ∈ tables_1 := qr4 (List.mem_of_getElem? (i := 4) rfl)
theorem q725 : Jvm.Cond.code ({ cls := "PoliteGathererModel", name := "sameBody", desc := "(II)Z" } : Jvm.MethodName) prog_10_method_28_code (5 : Nat) (Option.some Jvm.ClassFile.FieldType.boolean) ∈ tables_1 := qr4 (List.mem_of_getElem? (i := 5) rfl)
theorem q726 : Jvm.Cond.methodLink "PoliteGathererLaw" (97 : Nat) ({ cls := "PoliteGathererModel", name := "rank", desc := "(II)J" } : Jvm.MethodName) ∈ tables_1 := qr4 (List.mem_of_getElem? (i := 6) rfl)
theorem q727 : Jvm.Cond.instanceMethod ({ cls := "PoliteGathererModel", name := "rank", desc := "(II)J" } : Jvm.MethodName) ∈ tables_1 := qr4 (List.mem_of_getElem? (i := 7) rfl)
theorem q728 : Jvm.Cond.selects "PoliteGathererModel" ({ cls := "PoliteGathererModel", name := "rank", desc := "(II)J" } : Jvm.MethodName) ({ cls := "PoliteGathererModel", name := "rank", desc := "(II)J" } : Jvm.MethodName) ∈ tables_1 := qr4 (List.mem_of_getElem? (i := 8) rfl)
theorem q729 : Jvm.Cond.code ({ cls := "PoliteGathererModel", name := "rank", desc := "(II)J" } : Jvm.MethodName) prog_10_method_33_code (3 : Nat) (Option.some Jvm.ClassFile.FieldType.long) ∈ tables_1 := qr4 (List.mem_of_getElem? (i := 9) rfl)
theorem q730 : Jvm.Cond.methodLink "PoliteGathererModel" (181 : Nat) ({ cls := "PoliteGathererModel", name := "isDocument", desc := "(I)Z" } : Jvm.MethodName) ∈ tables_1 := qr4 (List.mem_of_getElem? (i := 10) rfl)
theorem q732 : Jvm.Cond.instanceMethod ({ cls := "PoliteGathererModel", name := "isDocument", desc := "(I)Z" } : Jvm.MethodName) ∈ tables_1 := qr4 (List.mem_of_getElem? (i := 12) rfl)
theorem q733 : Jvm.Cond.code ({ cls := "PoliteGathererModel", name := "isDocument", desc := "(I)Z" } : Jvm.MethodName) prog_10_method_30_code (2 : Nat) (Option.some Jvm.ClassFile.FieldType.boolean) ∈ tables_1 := qr4 (List.mem_of_getElem? (i := 13) rfl)
theorem q734 : Jvm.Cond.methodLink "PoliteGathererModel" (166 : Nat) ({ cls := "PoliteGathererModel", name := "document", desc := "(I)I" } : Jvm.MethodName) ∈ tables_1 := qr4 (List.mem_of_getElem? (i := 14) rfl)
theorem q735 : Jvm.Cond.methodLink "PoliteGathererModel" (184 : Nat) ({ cls := "PoliteGathererModel", name := "rankAll", desc := "(I)V" } : Jvm.MethodName) ∈ tables_1 := qr4 (List.mem_of_getElem? (i := 15) rfl)
theorem q737 : Jvm.Cond.instanceMethod ({ cls := "PoliteGathererModel", name := "rankAll", desc := "(I)V" } : Jvm.MethodName) ∈ tables_1 := qr4 (List.mem_of_getElem? (i := 17) rfl)
theorem q738 : Jvm.Cond.code ({ cls := "PoliteGathererModel", name := "rankAll", desc := "(I)V" } : Jvm.MethodName) prog_10_method_31_code (5 : Nat) (Option.none : Option Jvm.ClassFile.FieldType) ∈ tables_1 := qr4 (List.mem_of_getElem? (i := 18) rfl)
theorem q739 : Jvm.Cond.constantLong "PoliteGathererModel" (169 : Nat) (1000000 : Int64) ∈ tables_1 := qr4 (List.mem_of_getElem? (i := 19) rfl)
theorem q740 : Jvm.Cond.constantLong "PoliteGathererModel" (171 : Nat) (150000 : Int64) ∈ tables_1 := qr4 (List.mem_of_getElem? (i := 20) rfl)
theorem q741 : Jvm.Cond.constantLong "PoliteGathererModel" (173 : Nat) (85 : Int64) ∈ tables_1 := qr4 (List.mem_of_getElem? (i := 21) rfl)
theorem q742 : Jvm.Cond.methodLink "PoliteGathererModel" (175 : Nat) ({ cls := "PoliteGathererModel", name := "sum", desc := "(I)J" } : Jvm.MethodName) ∈ tables_1 := qr4 (List.mem_of_getElem? (i := 22) rfl)
theorem q744 : Jvm.Cond.instanceMethod ({ cls := "PoliteGathererModel", name := "sum", desc := "(I)J" } : Jvm.MethodName) ∈ tables_1 := qr4 (List.mem_of_getElem? (i := 24) rfl)
theorem q745 : Jvm.Cond.code ({ cls := "PoliteGathererModel", name := "sum", desc := "(I)J" } : Jvm.MethodName) prog_10_method_32_code (9 : Nat) (Option.some Jvm.ClassFile.FieldType.long) ∈ tables_1 := qr4 (List.mem_of_getElem? (i := 25) rfl)
theorem q746 : Jvm.Cond.constantLong "PoliteGathererModel" (179 : Nat) (100 : Int64) ∈ tables_1 := qr4 (List.mem_of_getElem? (i := 26) rfl)
theorem q747 : Jvm.Cond.methodLink "PoliteGathererLaw" (102 : Nat) ({ cls := "PoliteGathererModel", name := "best", desc := "(III)I" } : Jvm.MethodName) ∈ tables_1 := qr4 (List.mem_of_getElem? (i := 27) rfl)
theorem q748 : Jvm.Cond.instanceMethod ({ cls := "PoliteGathererModel", name := "best", desc := "(III)I" } : Jvm.MethodName) ∈ tables_1 := qr4 (List.mem_of_getElem? (i := 28) rfl)
theorem q749 : Jvm.Cond.selects "PoliteGathererModel" ({ cls := "PoliteGathererModel", name := "best", desc := "(III)I" } : Jvm.MethodName) ({ cls := "PoliteGathererModel", name := "best", desc := "(III)I" } : Jvm.MethodName) ∈ tables_1 := qr4 (List.mem_of_getElem? (i := 29) rfl)
theorem q750 : Jvm.Cond.code ({ cls := "PoliteGathererModel", name := "best", desc := "(III)I" } : Jvm.MethodName) prog_10_method_36_code (9 : Nat) (Option.some Jvm.ClassFile.FieldType.int) ∈ tables_1 := qr4 (List.mem_of_getElem? (i := 30) rfl)
theorem q751 : Jvm.Cond.methodLink "PoliteGathererModel" (187 : Nat) ({ cls := "PoliteGathererModel", name := "score", desc := "(III)J" } : Jvm.MethodName) ∈ tables_1 := qr4 (List.mem_of_getElem? (i := 31) rfl)
theorem q753 : Jvm.Cond.instanceMethod ({ cls := "PoliteGathererModel", name := "score", desc := "(III)J" } : Jvm.MethodName) ∈ tables_1 := qr4 (List.mem_of_getElem? (i := 33) rfl)
theorem q754 : Jvm.Cond.code ({ cls := "PoliteGathererModel", name := "score", desc := "(III)J" } : Jvm.MethodName) prog_10_method_34_code (7 : Nat) (Option.some Jvm.ClassFile.FieldType.long) ∈ tables_1 := qr4 (List.mem_of_getElem? (i := 34) rfl)
theorem q755 : Jvm.Cond.methodLink "PoliteGathererModel" (191 : Nat) ({ cls := "PoliteGathererModel", name := "comesBefore", desc := "(IIII)Z" } : Jvm.MethodName) ∈ tables_1 := qr4 (List.mem_of_getElem? (i := 35) rfl)
theorem q757 : Jvm.Cond.instanceMethod ({ cls := "PoliteGathererModel", name := "comesBefore", desc := "(IIII)Z" } : Jvm.MethodName) ∈ tables_1 := qr4 (List.mem_of_getElem? (i := 37) rfl)
theorem q758 : Jvm.Cond.code ({ cls := "PoliteGathererModel", name := "comesBefore", desc := "(IIII)Z" } : Jvm.MethodName) prog_10_method_35_code (9 : Nat) (Option.some Jvm.ClassFile.FieldType.boolean) ∈ tables_1 := qr4 (List.mem_of_getElem? (i := 38) rfl)
end
section
/-! The picture of the whole heap: cells by numbers, the abstract state, reading and writing. -/
abbrev gG : Type := va_G × (Nat → ClassId) × (Nat → Nat)
abbrev gA : Type := Nat → Nat → Int32
abbrev gL : Type := Nat → Nat → Int64
abbrev gS : Type := gA × gA × gL
def gty (g : gG) : List (ClassId × FieldType) := [(g.2.1 0, .int), (g.2.1 1, .boolean), (g.2.1 2, .long), (g.2.1 3, .object R_Page), (g.2.1 4, .object R_Host), (g.2.1 5, .array .int)]
def gu (f : gA) (k j : Nat) (v : Int32) : gA := fun k' => if k' = k then upd (f k') j v else f k'
def guL (f : gL) (k j : Nat) (v : Int64) : gL := fun k' => if k' = k then vp_updL (f k') j v else f k'
theorem gu_self (f : gA) (k j : Nat) (v : Int32) : gu f k j v k = upd (f k) j v := if_pos rfl
theorem gu_ne {f : gA} {k k' j : Nat} {v : Int32} (h : k' ≠ k) : gu f k j v k' = f k' := if_neg h
theorem guL_self (f : gL) (k j : Nat) (v : Int64) : guL f k j v k = vp_updL (f k) j v := if_pos rfl
theorem guL_ne {f : gL} {k k' j : Nat} {v : Int64} (h : k' ≠ k) : guL f k j v k' = f k' := if_neg h
theorem gu_hit (f : gA) (k j : Nat) (v : Int32) : gu f k j v k j = v := by rw [gu_self]; exact pk_us
theorem gu_off {f : gA} {k j k' j' : Nat} {v : Int32} (h : ¬ (k' = k ∧ j' = j)) : gu f k j v k' j' = f k' j' := by
  by_cases hk : k' = k
  · subst hk
    rw [gu_self]
    exact pk_un (fun e => h ⟨rfl, e⟩)
  · rw [gu_ne hk]
def gkf : List Nat := [0, 1, 11, 12, 2, 8, 9, 2, 8, 9, 2, 8, 9, 2, 8, 9, 2, 8, 9, 2, 8, 9, 3, 8, 5, 3, 8, 3, 8, 3, 8, 3, 8, 8, 6, 3, 8, 13, 8, 8, 8, 8, 8, 8, 8, 8, 8, 8, 8, 8, 8, 8, 8, 8, 8, 8, 8, 8, 8, 8, 8, 8, 8, 8, 8, 8, 8, 8, 8, 8, 8, 10, 10, 10, 7, 8, 8, 8, 8, 8, 8, 8, 8, 9, 8, 8, 8, 8, 8, 8, 8, 8, 10, 10]
def gnf : List Nat := [0, 0, 0, 0, 0, 4, 4, 0, 4, 4, 0, 4, 4, 0, 4, 4, 0, 4, 4, 0, 4, 4, 0, 6, 0, 0, 32, 0, 32, 0, 32, 0, 32, 6, 0, 0, 32, 0, 5, 5, 5, 5, 5, 5, 5, 5, 5, 5, 5, 5, 5, 5, 5, 5, 5, 5, 5, 5, 5, 5, 5, 5, 5, 5, 5, 5, 5, 5, 5, 5, 32, 32, 32, 32, 0, 32, 32, 32, 256, 32, 160, 32, 24, 24, 6, 6, 32, 32, 32, 32, 6, 160, 32, 32]
def gk (k : Nat) : Nat := if k < 94 then gkf.getD k 0 else [4, 3, 8, 3, 8].getD ((k - 94) % 5) 0
def gn (k : Nat) : Nat := if k < 94 then gnf.getD k 0 else [0, 0, 8, 0, 5].getD ((k - 94) % 5) 0
def gp (p : Nat) : Nat := 94 + 5 * p
theorem gk_p (p : Nat) {r : Nat} (hr : r < 5) : gk (gp p + r) = [4, 3, 8, 3, 8].getD r 0 ∧ gn (gp p + r) = [0, 0, 8, 0, 5].getD r 0 := by
  unfold gk gn gp
  rw [if_neg (by omega), if_neg (by omega), show (94 + 5 * p + r - 94) % 5 = r by omega]
  exact ⟨rfl, rfl⟩
theorem gk_p0 (p : Nat) : gk (gp p) = 4 := (gk_p p (r := 0) (by omega)).1
theorem gk_p1 (p : Nat) : gk (gp p + 1) = 3 := (gk_p p (r := 1) (by omega)).1
theorem gk_p2 (p : Nat) : gk (gp p + 2) = 8 := (gk_p p (r := 2) (by omega)).1
theorem gk_p3 (p : Nat) : gk (gp p + 3) = 3 := (gk_p p (r := 3) (by omega)).1
theorem gk_p4 (p : Nat) : gk (gp p + 4) = 8 := (gk_p p (r := 4) (by omega)).1
theorem gn_p2 (p : Nat) : gn (gp p + 2) = 8 := (gk_p p (r := 2) (by omega)).2
theorem gn_p4 (p : Nat) : gn (gp p + 4) = 5 := (gk_p p (r := 4) (by omega)).2
theorem gk_h0 {h : Nat} (hh : h < 6) : gk (4 + 3 * h) = 2 := (show ∀ h : Fin 6, gk (4 + 3 * h.val) = 2 by decide) ⟨h, hh⟩
theorem gk_h1 {h : Nat} (hh : h < 6) : gk (4 + 3 * h + 1) = 8 ∧ gn (4 + 3 * h + 1) = 4 := (show ∀ h : Fin 6, gk (4 + 3 * h.val + 1) = 8 ∧ gn (4 + 3 * h.val + 1) = 4 by decide) ⟨h, hh⟩
theorem gk_h2 {h : Nat} (hh : h < 6) : gk (4 + 3 * h + 2) = 9 ∧ gn (4 + 3 * h + 2) = 4 := (show ∀ h : Fin 6, gk (4 + 3 * h.val + 2) = 9 ∧ gn (4 + 3 * h.val + 2) = 4 by decide) ⟨h, hh⟩
theorem gk_l {d : Nat} (hd : d < 32) : gk (38 + d) = 8 ∧ gn (38 + d) = 5 := (show ∀ d : Fin 32, gk (38 + d.val) = 8 ∧ gn (38 + d.val) = 5 by decide) ⟨d, hd⟩
abbrev gf0 (ad : Nat → Nat) (r : Nat → Int32) : List Value := [.ref (ad 1), .ref (ad 24), .ref (ad 34), .int (r 3)]
abbrev gf1 (ad : Nat → Nat) (r : Nat → Int32) : List Value := [.ref (ad 2), .ref (ad 3), .ref (ad 22), .int (r 3)]
abbrev gf2 (ad : Nat → Nat) (k : Nat) (r : Nat → Int32) : List Value := [.ref (ad (k + 1)), .ref (ad (k + 2)), .int (r 2)]
abbrev gf3 (ad : Nat → Nat) (k : Nat) (r : Nat → Int32) : List Value := [.ref (ad (k + 1)), .int (r 1)]
abbrev gf4 (g : gG) (ad : Nat → Nat) (k : Nat) (r : Nat → Int32) : List Value := [.int (r 0), .int (r 1), .ref (ad (k + 1)), .ref (ad (k + 3)), .ref (g.2.2 (r 4).toNatClampNeg), .int (r 5)]
abbrev gf5 (ad : Nat → Nat) (r : Nat → Int32) : List Value := [.ref (ad 1), .ref (ad 25), .ref (ad 27), .ref (ad 29), .ref (ad 31), .ref (ad 33), .int (r 6), .int (r 7), .int (r 8), .int (r 9), .int (r 10), .int (r 11), .int (r 12), .int (r 13), .int (r 14), .int (r 15), .int (r 16)]
abbrev gf6 (ad : Nat → Nat) : List Value := [.ref (ad 1), .ref (ad 24), .ref (ad 35), .ref (ad 37), .ref (ad 70), .ref (ad 71), .ref (ad 72), .ref (ad 73)]
abbrev gf7 (ad : Nat → Nat) (r : Nat → Int32) : List Value := [.int (r 0), .ref (ad 75), .ref (ad 76), .ref (ad 77), .ref (ad 78), .ref (ad 79), .ref (ad 80), .ref (ad 81), .ref (ad 82), .ref (ad 83), .ref (ad 84), .ref (ad 85), .int (r 12), .int (r 13), .int (r 14), .int (r 15), .int (r 16), .int (r 17), .ref (ad 86), .ref (ad 87), .int (r 20), .int (r 21), .ref (ad 88), .int (r 23), .ref (ad 89), .int (r 25), .int (r 26), .ref (ad 90), .int (r 28), .int (r 29), .int (r 30), .int (r 31), .int (r 32), .int (r 33), .ref (ad 91), .ref (ad 92), .ref (ad 93)]
def ge (g : gG) (ad : Nat → Nat) (np : Nat) (σ : gA) (τ : gL) (k : Nat) : va_E := match gk k with
  | 0 => .inr (0, gf0 ad (σ k))
  | 1 => .inr (1, gf1 ad (σ k))
  | 2 => .inr (2, gf2 ad k (σ k))
  | 3 => .inr (3, gf3 ad k (σ k))
  | 4 => .inr (4, gf4 g ad k (σ k))
  | 5 => .inr (5, gf5 ad (σ k))
  | 6 => .inr (6, gf6 ad)
  | 7 => .inr (7, gf7 ad (σ k))
  | 8 => .inl (g.2.1 0, gn k, .inl (σ k))
  | 9 => .inl (g.2.1 1, gn k, .inl (σ k))
  | 10 => .inl (g.2.1 2, gn k, .inr (.inl (τ k)))
  | 11 => .inl (g.2.1 3, 32, .inr (.inr (.inr (.inr (fun p => if p < np then some (ad (gp p)) else none)))))
  | 12 => .inl (g.2.1 4, 6, .inr (.inr (.inr (.inr (fun h => some (ad (4 + 3 * h)))))))
  | _ => .inl (g.2.1 5, 32, .inr (.inr (.inr (.inr (fun d => some (ad (38 + d)))))))
theorem ge_0 {g : gG} {ad : Nat → Nat} {np k : Nat} (h : gk k = 0) (σ : gA) (τ : gL) : ge g ad np σ τ k = .inr (0, gf0 ad (σ k)) := by unfold ge; simp only [h]
theorem ge_1 {g : gG} {ad : Nat → Nat} {np k : Nat} (h : gk k = 1) (σ : gA) (τ : gL) : ge g ad np σ τ k = .inr (1, gf1 ad (σ k)) := by unfold ge; simp only [h]
theorem ge_2 {g : gG} {ad : Nat → Nat} {np k : Nat} (h : gk k = 2) (σ : gA) (τ : gL) : ge g ad np σ τ k = .inr (2, gf2 ad k (σ k)) := by unfold ge; simp only [h]
theorem ge_3 {g : gG} {ad : Nat → Nat} {np k : Nat} (h : gk k = 3) (σ : gA) (τ : gL) : ge g ad np σ τ k = .inr (3, gf3 ad k (σ k)) := by unfold ge; simp only [h]
theorem ge_4 {g : gG} {ad : Nat → Nat} {np k : Nat} (h : gk k = 4) (σ : gA) (τ : gL) : ge g ad np σ τ k = .inr (4, gf4 g ad k (σ k)) := by unfold ge; simp only [h]
theorem ge_5 {g : gG} {ad : Nat → Nat} {np k : Nat} (h : gk k = 5) (σ : gA) (τ : gL) : ge g ad np σ τ k = .inr (5, gf5 ad (σ k)) := by unfold ge; simp only [h]
theorem ge_6 {g : gG} {ad : Nat → Nat} {np k : Nat} (h : gk k = 6) (σ : gA) (τ : gL) : ge g ad np σ τ k = .inr (6, gf6 ad) := by unfold ge; simp only [h]
theorem ge_7 {g : gG} {ad : Nat → Nat} {np k : Nat} (h : gk k = 7) (σ : gA) (τ : gL) : ge g ad np σ τ k = .inr (7, gf7 ad (σ k)) := by unfold ge; simp only [h]
theorem ge_8 {g : gG} {ad : Nat → Nat} {np k : Nat} (h : gk k = 8) (σ : gA) (τ : gL) : ge g ad np σ τ k = .inl (g.2.1 0, gn k, .inl (σ k)) := by unfold ge; simp only [h]
theorem ge_9 {g : gG} {ad : Nat → Nat} {np k : Nat} (h : gk k = 9) (σ : gA) (τ : gL) : ge g ad np σ τ k = .inl (g.2.1 1, gn k, .inl (σ k)) := by unfold ge; simp only [h]
theorem ge_10 {g : gG} {ad : Nat → Nat} {np k : Nat} (h : gk k = 10) (σ : gA) (τ : gL) : ge g ad np σ τ k = .inl (g.2.1 2, gn k, .inr (.inl (τ k))) := by unfold ge; simp only [h]
theorem ge_11 {g : gG} {ad : Nat → Nat} {np : Nat} (σ : gA) (τ : gL) : ge g ad np σ τ 2 = .inl (g.2.1 3, 32, .inr (.inr (.inr (.inr (fun p => if p < np then some (ad (gp p)) else none))))) := rfl
theorem ge_12 {g : gG} {ad : Nat → Nat} {np : Nat} (σ : gA) (τ : gL) : ge g ad np σ τ 3 = .inl (g.2.1 4, 6, .inr (.inr (.inr (.inr (fun h => some (ad (4 + 3 * h))))))) := rfl
theorem ge_13 {g : gG} {ad : Nat → Nat} {np : Nat} (σ : gA) (τ : gL) : ge g ad np σ τ 37 = .inl (g.2.1 5, 32, .inr (.inr (.inr (.inr (fun d => some (ad (38 + d))))))) := rfl
theorem ge_congr {g : gG} {ad : Nat → Nat} {np k : Nat} {σ σ' : gA} {τ τ' : gL} (h : σ' k = σ k) (h' : τ' k = τ k) : ge g ad np σ' τ' k = ge g ad np σ τ k := by
  unfold ge
  rw [h, h']
def gw (g : gG) (ad : Nat → Nat) (np : Nat) (σ : gA) (τ : gL) : va_W := (List.range (94 + 5 * np)).map (fun k => (ad k, ge g ad np σ τ k))
theorem gw_at {g : gG} {ad : Nat → Nat} {np k : Nat} {σ : gA} {τ : gL} (hk : k < 94 + 5 * np) : (gw g ad np σ τ)[k]? = some (ad k, ge g ad np σ τ k) := by
  unfold gw
  rw [List.getElem?_map, List.getElem?_range hk]
  rfl
theorem gw_set {g : gG} {ad : Nat → Nat} {np k : Nat} {σ σ' : gA} {τ τ' : gL} {e : va_E} (he : ge g ad np σ' τ' k = e) (ho : ∀ k', k' ≠ k → ge g ad np σ' τ' k' = ge g ad np σ τ k') : (gw g ad np σ τ).set k (ad k, e) = gw g ad np σ' τ' := by
  subst he
  apply List.ext_getElem?
  intro i
  by_cases hi : i < 94 + 5 * np
  · rw [gw_at hi]
    by_cases hik : i = k
    · subst hik
      rw [List.getElem?_set_self (by unfold gw; simpa using hi)]
    · rw [List.getElem?_set_ne (Ne.symm hik), gw_at hi, ho i hik]
  · rw [List.getElem?_eq_none (by unfold gw; simp; omega), List.getElem?_eq_none (by unfold gw; simp; omega)]
def gF : List (Nat × Nat × Nat × Nat × Nat) := [(0, 3, 0, 0, 13), (1, 3, 0, 0, 0), (22, 1, 0, 0, 12), (24, 6, 0, 0, 14), (24, 7, 0, 0, 15), (24, 8, 0, 0, 16), (24, 9, 0, 0, 17), (24, 10, 0, 0, 20), (24, 11, 0, 0, 26), (24, 12, 0, 0, 28), (24, 13, 0, 0, 29), (24, 14, 0, 0, 30), (24, 15, 0, 0, 31), (24, 16, 0, 0, 32), (25, 1, 0, 0, 21), (27, 1, 1, 2, 0), (29, 1, 0, 0, 23), (31, 1, 0, 0, 25), (35, 1, 1, 2, 1), (74, 0, 2, 0, 0), (74, 12, 2, 0, 12), (74, 13, 2, 0, 13), (74, 14, 2, 0, 14), (74, 15, 2, 0, 15), (74, 16, 2, 0, 16), (74, 17, 2, 0, 17), (74, 20, 2, 0, 20), (74, 21, 2, 0, 21), (74, 23, 2, 0, 23), (74, 25, 2, 0, 25), (74, 26, 2, 0, 26), (74, 28, 2, 0, 28), (74, 29, 2, 0, 29), (74, 30, 2, 0, 30), (74, 31, 2, 0, 31), (74, 32, 2, 0, 32), (74, 33, 2, 0, 33)]
def gT : List (Nat × Nat × Nat × Nat × Nat × Nat × Nat × Nat) := [(0, 1, 94, 5, 1, 0, 0, 1), (0, 2, 94, 5, 1, 1, 0, 1), (0, 4, 96, 5, 8, 0, 0, 8), (0, 5, 95, 5, 1, 1, 0, 1), (0, 6, 98, 5, 5, 0, 0, 5), (0, 7, 97, 5, 1, 1, 0, 1), (0, 8, 5, 3, 4, 0, 24, 0), (0, 9, 6, 3, 4, 0, 24, 0), (0, 10, 4, 3, 1, 2, 6, 0), (0, 11, 23, 0, 0, 0, 6, 0), (0, 12, 26, 0, 0, 0, 32, 0), (0, 13, 28, 0, 0, 0, 32, 0), (0, 14, 30, 0, 0, 0, 32, 0), (0, 15, 32, 0, 0, 0, 32, 0), (0, 16, 33, 0, 0, 0, 6, 0), (1, 0, 94, 5, 1, 4, 0, 1), (1, 1, 94, 5, 1, 5, 0, 1), (1, 3, 36, 0, 0, 0, 32, 0), (1, 4, 38, 1, 5, 0, 160, 0), (1, 5, 70, 0, 0, 0, 32, 0), (2, 1, 75, 0, 0, 0, 32, 0), (2, 2, 76, 0, 0, 0, 32, 0), (2, 3, 77, 0, 0, 0, 32, 0), (2, 4, 78, 0, 0, 0, 256, 0), (2, 5, 79, 0, 0, 0, 32, 0), (2, 6, 80, 0, 0, 0, 160, 0), (2, 7, 81, 0, 0, 0, 32, 0), (2, 8, 82, 0, 0, 0, 24, 0), (2, 9, 83, 0, 0, 0, 24, 0), (2, 10, 84, 0, 0, 0, 6, 0), (2, 11, 85, 0, 0, 0, 6, 0), (2, 12, 86, 0, 0, 0, 32, 0), (2, 13, 87, 0, 0, 0, 32, 0), (2, 14, 88, 0, 0, 0, 32, 0), (2, 15, 89, 0, 0, 0, 32, 0), (2, 16, 90, 0, 0, 0, 6, 0), (3, 0, 91, 0, 0, 0, 160, 0)]
def gtf (q : Nat × Nat × Nat) : Option (Nat × Nat × Nat × Nat × Nat × Nat × Nat × Nat) := gT.find? (fun e => e.1 == q.1 && e.2.1 == q.2.1)
def gff (q : Nat × Nat × Nat) : Option (Nat × Nat × Nat × Nat × Nat) := gF.find? (fun e => e.2.2 == q)
/-- the cell and place of an abstract place -/
def gi (q : Nat × Nat × Nat) : Nat × Nat := match gtf q with
  | some (_, _, k0, s, d, j0, _, _) => (k0 + s * (q.2.2 / d), j0 + q.2.2 % d)
  | none => match gff q with
    | some (k, j, _) => (k, j)
    | none => (0, 0)
/-- the abstract places that there are -/
def gv (np : Nat) (q : Nat × Nat × Nat) : Prop := match gtf q with
  | some (_, _, _, _, _, _, b, bp) => q.2.2 < b + bp * np
  | none => (gff q).isSome = true
/-- back: the abstract place of a cell's place -/
def glf (k j : Nat) : Nat × Nat × Nat := match gF.find? (fun e => e.1 == k && e.2.1 == j) with
  | some e => e.2.2
  | none => match gT.find? (fun e => e.2.2.1 == k && e.2.2.2.1 == 0) with
    | some e => (e.1, e.2.1, j)
    | none => if k < 22 then (if (k - 4) % 3 = 0 then (0, 10, (k - 4) / 3) else if (k - 4) % 3 = 1 then (0, 8, 4 * ((k - 4) / 3) + j) else (0, 9, 4 * ((k - 4) / 3) + j)) else (1, 4, 5 * (k - 38) + j)
def glp (p r j : Nat) : Nat × Nat × Nat := if r = 0 then (if j = 0 then (0, 1, p) else if j = 1 then (0, 2, p) else if j = 4 then (1, 0, p) else (1, 1, p)) else if r = 1 then (0, 5, p) else if r = 2 then (0, 4, 8 * p + j) else if r = 3 then (0, 7, p) else (0, 6, 5 * p + j)
def gl (k j : Nat) : Nat × Nat × Nat := if k < 94 then glf k j else glp ((k - 94) / 5) ((k - 94) % 5) j
theorem gl_pg {p r j : Nat} (hr : r < 5) : gl (94 + 5 * p + r) j = glp p r j := by
  unfold gl
  rw [if_neg (by omega), show (94 + 5 * p + r - 94) / 5 = p by omega, show (94 + 5 * p + r - 94) % 5 = r by omega]
theorem gi_0_1 (p : Nat) : gi (0, 1, p) = (gp p, 0) := by
  show (94 + 5 * (p / 1), 0 + p % 1) = _
  unfold gp
  rw [Nat.div_one, Nat.mod_one]
theorem gi_gl_0_1 (p : Nat) : gl (gi (0, 1, p)).1 (gi (0, 1, p)).2 = (0, 1, p) := by
  rw [gi_0_1]
  exact gl_pg (p := p) (r := 0) (j := 0) (by omega)
theorem gi_0_2 (p : Nat) : gi (0, 2, p) = (gp p, 1) := by
  show (94 + 5 * (p / 1), 1 + p % 1) = _
  unfold gp
  rw [Nat.div_one, Nat.mod_one]
theorem gi_gl_0_2 (p : Nat) : gl (gi (0, 2, p)).1 (gi (0, 2, p)).2 = (0, 2, p) := by
  rw [gi_0_2]
  exact gl_pg (p := p) (r := 0) (j := 1) (by omega)
theorem gi_0_4 (p : Nat) {i : Nat} (hi : i < 8) : gi (0, 4, 8 * p + i) = (gp p + 2, i) := by
  show (96 + 5 * ((8 * p + i) / 8), 0 + (8 * p + i) % 8) = _
  unfold gp
  exact Prod.ext (show 96 + 5 * ((8 * p + i) / 8) = 94 + 5 * p + 2 by omega) (show 0 + (8 * p + i) % 8 = i by omega)
theorem gi_gl_0_4 (x : Nat) : gl (gi (0, 4, x)).1 (gi (0, 4, x)).2 = (0, 4, x) := by
  have h := gi_0_4 (x / 8) (i := x % 8) (by omega)
  rw [show 8 * (x / 8) + x % 8 = x by omega] at h
  rw [h]
  refine (gl_pg (p := x / 8) (r := 2) (j := x % 8) (by omega)).trans ?_
  show (0, 4, 8 * (x / 8) + x % 8) = _
  rw [show 8 * (x / 8) + x % 8 = x by omega]
theorem gi_0_5 (p : Nat) : gi (0, 5, p) = (gp p + 1, 1) := by
  show (95 + 5 * (p / 1), 1 + p % 1) = _
  unfold gp
  rw [Nat.div_one, Nat.mod_one]
  exact Prod.ext (show 95 + 5 * p = 94 + 5 * p + 1 by omega) rfl
theorem gi_gl_0_5 (p : Nat) : gl (gi (0, 5, p)).1 (gi (0, 5, p)).2 = (0, 5, p) := by
  rw [gi_0_5]
  exact gl_pg (p := p) (r := 1) (j := 1) (by omega)
theorem gi_0_6 (p : Nat) {i : Nat} (hi : i < 5) : gi (0, 6, 5 * p + i) = (gp p + 4, i) := by
  show (98 + 5 * ((5 * p + i) / 5), 0 + (5 * p + i) % 5) = _
  unfold gp
  exact Prod.ext (show 98 + 5 * ((5 * p + i) / 5) = 94 + 5 * p + 4 by omega) (show 0 + (5 * p + i) % 5 = i by omega)
theorem gi_gl_0_6 (x : Nat) : gl (gi (0, 6, x)).1 (gi (0, 6, x)).2 = (0, 6, x) := by
  have h := gi_0_6 (x / 5) (i := x % 5) (by omega)
  rw [show 5 * (x / 5) + x % 5 = x by omega] at h
  rw [h]
  refine (gl_pg (p := x / 5) (r := 4) (j := x % 5) (by omega)).trans ?_
  show (0, 6, 5 * (x / 5) + x % 5) = _
  rw [show 5 * (x / 5) + x % 5 = x by omega]
theorem gi_0_7 (p : Nat) : gi (0, 7, p) = (gp p + 3, 1) := by
  show (97 + 5 * (p / 1), 1 + p % 1) = _
  unfold gp
  rw [Nat.div_one, Nat.mod_one]
  exact Prod.ext (show 97 + 5 * p = 94 + 5 * p + 3 by omega) rfl
theorem gi_gl_0_7 (p : Nat) : gl (gi (0, 7, p)).1 (gi (0, 7, p)).2 = (0, 7, p) := by
  rw [gi_0_7]
  exact gl_pg (p := p) (r := 3) (j := 1) (by omega)
theorem gi_1_0 (p : Nat) : gi (1, 0, p) = (gp p, 4) := by
  show (94 + 5 * (p / 1), 4 + p % 1) = _
  unfold gp
  rw [Nat.div_one, Nat.mod_one]
theorem gi_gl_1_0 (p : Nat) : gl (gi (1, 0, p)).1 (gi (1, 0, p)).2 = (1, 0, p) := by
  rw [gi_1_0]
  exact gl_pg (p := p) (r := 0) (j := 4) (by omega)
theorem gi_1_1 (p : Nat) : gi (1, 1, p) = (gp p, 5) := by
  show (94 + 5 * (p / 1), 5 + p % 1) = _
  unfold gp
  rw [Nat.div_one, Nat.mod_one]
theorem gi_gl_1_1 (p : Nat) : gl (gi (1, 1, p)).1 (gi (1, 1, p)).2 = (1, 1, p) := by
  rw [gi_1_1]
  exact gl_pg (p := p) (r := 0) (j := 5) (by omega)
theorem gi_gl_0_8 {x : Nat} (hx : x < 24) : gl (gi (0, 8, x)).1 (gi (0, 8, x)).2 = (0, 8, x) := (show ∀ x : Fin 24, gl (gi (0, 8, x.val)).1 (gi (0, 8, x.val)).2 = (0, 8, x.val) by decide +kernel) ⟨x, hx⟩
theorem gi_gl_0_9 {x : Nat} (hx : x < 24) : gl (gi (0, 9, x)).1 (gi (0, 9, x)).2 = (0, 9, x) := (show ∀ x : Fin 24, gl (gi (0, 9, x.val)).1 (gi (0, 9, x.val)).2 = (0, 9, x.val) by decide +kernel) ⟨x, hx⟩
theorem gi_gl_0_10 {x : Nat} (hx : x < 6) : gl (gi (0, 10, x)).1 (gi (0, 10, x)).2 = (0, 10, x) := (show ∀ x : Fin 6, gl (gi (0, 10, x.val)).1 (gi (0, 10, x.val)).2 = (0, 10, x.val) by decide +kernel) ⟨x, hx⟩
theorem gi_gl_1_4 {x : Nat} (hx : x < 160) : gl (gi (1, 4, x)).1 (gi (1, 4, x)).2 = (1, 4, x) := (show ∀ x : Fin 160, gl (gi (1, 4, x.val)).1 (gi (1, 4, x.val)).2 = (1, 4, x.val) by decide +kernel) ⟨x, hx⟩
theorem gi_0_11 (x : Nat) : gi (0, 11, x) = (23, x) := by
  show (23 + 0 * (x / 0), 0 + x % 0) = _
  rw [Nat.zero_mul, Nat.mod_zero, Nat.zero_add]
theorem gi_0_12 (x : Nat) : gi (0, 12, x) = (26, x) := by
  show (26 + 0 * (x / 0), 0 + x % 0) = _
  rw [Nat.zero_mul, Nat.mod_zero, Nat.zero_add]
theorem gi_0_13 (x : Nat) : gi (0, 13, x) = (28, x) := by
  show (28 + 0 * (x / 0), 0 + x % 0) = _
  rw [Nat.zero_mul, Nat.mod_zero, Nat.zero_add]
theorem gi_0_14 (x : Nat) : gi (0, 14, x) = (30, x) := by
  show (30 + 0 * (x / 0), 0 + x % 0) = _
  rw [Nat.zero_mul, Nat.mod_zero, Nat.zero_add]
theorem gi_0_15 (x : Nat) : gi (0, 15, x) = (32, x) := by
  show (32 + 0 * (x / 0), 0 + x % 0) = _
  rw [Nat.zero_mul, Nat.mod_zero, Nat.zero_add]
theorem gi_0_16 (x : Nat) : gi (0, 16, x) = (33, x) := by
  show (33 + 0 * (x / 0), 0 + x % 0) = _
  rw [Nat.zero_mul, Nat.mod_zero, Nat.zero_add]
theorem gi_1_3 (x : Nat) : gi (1, 3, x) = (36, x) := by
  show (36 + 0 * (x / 0), 0 + x % 0) = _
  rw [Nat.zero_mul, Nat.mod_zero, Nat.zero_add]
theorem gi_1_5 (x : Nat) : gi (1, 5, x) = (70, x) := by
  show (70 + 0 * (x / 0), 0 + x % 0) = _
  rw [Nat.zero_mul, Nat.mod_zero, Nat.zero_add]
theorem gi_2_1 (x : Nat) : gi (2, 1, x) = (75, x) := by
  show (75 + 0 * (x / 0), 0 + x % 0) = _
  rw [Nat.zero_mul, Nat.mod_zero, Nat.zero_add]
theorem gi_2_2 (x : Nat) : gi (2, 2, x) = (76, x) := by
  show (76 + 0 * (x / 0), 0 + x % 0) = _
  rw [Nat.zero_mul, Nat.mod_zero, Nat.zero_add]
theorem gi_2_3 (x : Nat) : gi (2, 3, x) = (77, x) := by
  show (77 + 0 * (x / 0), 0 + x % 0) = _
  rw [Nat.zero_mul, Nat.mod_zero, Nat.zero_add]
theorem gi_2_4 (x : Nat) : gi (2, 4, x) = (78, x) := by
  show (78 + 0 * (x / 0), 0 + x % 0) = _
  rw [Nat.zero_mul, Nat.mod_zero, Nat.zero_add]
theorem gi_2_5 (x : Nat) : gi (2, 5, x) = (79, x) := by
  show (79 + 0 * (x / 0), 0 + x % 0) = _
  rw [Nat.zero_mul, Nat.mod_zero, Nat.zero_add]
theorem gi_2_6 (x : Nat) : gi (2, 6, x) = (80, x) := by
  show (80 + 0 * (x / 0), 0 + x % 0) = _
  rw [Nat.zero_mul, Nat.mod_zero, Nat.zero_add]
theorem gi_2_7 (x : Nat) : gi (2, 7, x) = (81, x) := by
  show (81 + 0 * (x / 0), 0 + x % 0) = _
  rw [Nat.zero_mul, Nat.mod_zero, Nat.zero_add]
theorem gi_2_8 (x : Nat) : gi (2, 8, x) = (82, x) := by
  show (82 + 0 * (x / 0), 0 + x % 0) = _
  rw [Nat.zero_mul, Nat.mod_zero, Nat.zero_add]
theorem gi_2_9 (x : Nat) : gi (2, 9, x) = (83, x) := by
  show (83 + 0 * (x / 0), 0 + x % 0) = _
  rw [Nat.zero_mul, Nat.mod_zero, Nat.zero_add]
theorem gi_2_10 (x : Nat) : gi (2, 10, x) = (84, x) := by
  show (84 + 0 * (x / 0), 0 + x % 0) = _
  rw [Nat.zero_mul, Nat.mod_zero, Nat.zero_add]
theorem gi_2_11 (x : Nat) : gi (2, 11, x) = (85, x) := by
  show (85 + 0 * (x / 0), 0 + x % 0) = _
  rw [Nat.zero_mul, Nat.mod_zero, Nat.zero_add]
theorem gi_2_12 (x : Nat) : gi (2, 12, x) = (86, x) := by
  show (86 + 0 * (x / 0), 0 + x % 0) = _
  rw [Nat.zero_mul, Nat.mod_zero, Nat.zero_add]
theorem gi_2_13 (x : Nat) : gi (2, 13, x) = (87, x) := by
  show (87 + 0 * (x / 0), 0 + x % 0) = _
  rw [Nat.zero_mul, Nat.mod_zero, Nat.zero_add]
theorem gi_2_14 (x : Nat) : gi (2, 14, x) = (88, x) := by
  show (88 + 0 * (x / 0), 0 + x % 0) = _
  rw [Nat.zero_mul, Nat.mod_zero, Nat.zero_add]
theorem gi_2_15 (x : Nat) : gi (2, 15, x) = (89, x) := by
  show (89 + 0 * (x / 0), 0 + x % 0) = _
  rw [Nat.zero_mul, Nat.mod_zero, Nat.zero_add]
theorem gi_2_16 (x : Nat) : gi (2, 16, x) = (90, x) := by
  show (90 + 0 * (x / 0), 0 + x % 0) = _
  rw [Nat.zero_mul, Nat.mod_zero, Nat.zero_add]
theorem gi_3_0 (x : Nat) : gi (3, 0, x) = (91, x) := by
  show (91 + 0 * (x / 0), 0 + x % 0) = _
  rw [Nat.zero_mul, Nat.mod_zero, Nat.zero_add]
theorem gi_gl_F : ∀ e ∈ gF, gl (gi e.2.2).1 (gi e.2.2).2 = e.2.2 := by decide +kernel
theorem gi_gl_0_11 (x : Nat) : gl (gi (0, 11, x)).1 (gi (0, 11, x)).2 = (0, 11, x) := by
  rw [gi_0_11]
  rfl
theorem gi_gl_0_12 (x : Nat) : gl (gi (0, 12, x)).1 (gi (0, 12, x)).2 = (0, 12, x) := by
  rw [gi_0_12]
  rfl
theorem gi_gl_0_13 (x : Nat) : gl (gi (0, 13, x)).1 (gi (0, 13, x)).2 = (0, 13, x) := by
  rw [gi_0_13]
  rfl
theorem gi_gl_0_14 (x : Nat) : gl (gi (0, 14, x)).1 (gi (0, 14, x)).2 = (0, 14, x) := by
  rw [gi_0_14]
  rfl
theorem gi_gl_0_15 (x : Nat) : gl (gi (0, 15, x)).1 (gi (0, 15, x)).2 = (0, 15, x) := by
  rw [gi_0_15]
  rfl
theorem gi_gl_0_16 (x : Nat) : gl (gi (0, 16, x)).1 (gi (0, 16, x)).2 = (0, 16, x) := by
  rw [gi_0_16]
  rfl
theorem gi_gl_1_3 (x : Nat) : gl (gi (1, 3, x)).1 (gi (1, 3, x)).2 = (1, 3, x) := by
  rw [gi_1_3]
  rfl
theorem gi_gl_1_5 (x : Nat) : gl (gi (1, 5, x)).1 (gi (1, 5, x)).2 = (1, 5, x) := by
  rw [gi_1_5]
  rfl
theorem gi_gl_2_1 (x : Nat) : gl (gi (2, 1, x)).1 (gi (2, 1, x)).2 = (2, 1, x) := by
  rw [gi_2_1]
  rfl
theorem gi_gl_2_2 (x : Nat) : gl (gi (2, 2, x)).1 (gi (2, 2, x)).2 = (2, 2, x) := by
  rw [gi_2_2]
  rfl
theorem gi_gl_2_3 (x : Nat) : gl (gi (2, 3, x)).1 (gi (2, 3, x)).2 = (2, 3, x) := by
  rw [gi_2_3]
  rfl
theorem gi_gl_2_4 (x : Nat) : gl (gi (2, 4, x)).1 (gi (2, 4, x)).2 = (2, 4, x) := by
  rw [gi_2_4]
  rfl
theorem gi_gl_2_5 (x : Nat) : gl (gi (2, 5, x)).1 (gi (2, 5, x)).2 = (2, 5, x) := by
  rw [gi_2_5]
  rfl
theorem gi_gl_2_6 (x : Nat) : gl (gi (2, 6, x)).1 (gi (2, 6, x)).2 = (2, 6, x) := by
  rw [gi_2_6]
  rfl
theorem gi_gl_2_7 (x : Nat) : gl (gi (2, 7, x)).1 (gi (2, 7, x)).2 = (2, 7, x) := by
  rw [gi_2_7]
  rfl
theorem gi_gl_2_8 (x : Nat) : gl (gi (2, 8, x)).1 (gi (2, 8, x)).2 = (2, 8, x) := by
  rw [gi_2_8]
  rfl
theorem gi_gl_2_9 (x : Nat) : gl (gi (2, 9, x)).1 (gi (2, 9, x)).2 = (2, 9, x) := by
  rw [gi_2_9]
  rfl
theorem gi_gl_2_10 (x : Nat) : gl (gi (2, 10, x)).1 (gi (2, 10, x)).2 = (2, 10, x) := by
  rw [gi_2_10]
  rfl
theorem gi_gl_2_11 (x : Nat) : gl (gi (2, 11, x)).1 (gi (2, 11, x)).2 = (2, 11, x) := by
  rw [gi_2_11]
  rfl
theorem gi_gl_2_12 (x : Nat) : gl (gi (2, 12, x)).1 (gi (2, 12, x)).2 = (2, 12, x) := by
  rw [gi_2_12]
  rfl
theorem gi_gl_2_13 (x : Nat) : gl (gi (2, 13, x)).1 (gi (2, 13, x)).2 = (2, 13, x) := by
  rw [gi_2_13]
  rfl
theorem gi_gl_2_14 (x : Nat) : gl (gi (2, 14, x)).1 (gi (2, 14, x)).2 = (2, 14, x) := by
  rw [gi_2_14]
  rfl
theorem gi_gl_2_15 (x : Nat) : gl (gi (2, 15, x)).1 (gi (2, 15, x)).2 = (2, 15, x) := by
  rw [gi_2_15]
  rfl
theorem gi_gl_2_16 (x : Nat) : gl (gi (2, 16, x)).1 (gi (2, 16, x)).2 = (2, 16, x) := by
  rw [gi_2_16]
  rfl
theorem gi_gl_3_0 (x : Nat) : gl (gi (3, 0, x)).1 (gi (3, 0, x)).2 = (3, 0, x) := by
  rw [gi_3_0]
  rfl
theorem gl_gi {np : Nat} {q : Nat × Nat × Nat} (h : gv np q) : gl (gi q).1 (gi q).2 = q := by
  obtain ⟨sp, row, x⟩ := q
  unfold gv at h
  cases ht : gtf (sp, row, x) with
  | some e =>
    rw [ht] at h
    have hm := List.mem_of_find?_eq_some ht
    have hp := List.find?_some ht
    simp only [Bool.and_eq_true, beq_iff_eq] at hp
    obtain ⟨h1, h2⟩ := hp
    subst h1
    subst h2
    simp only [gT, List.mem_cons, List.not_mem_nil, or_false] at hm
    rcases hm with rfl | rfl | rfl | rfl | rfl | rfl | rfl | rfl | rfl | rfl | rfl | rfl | rfl | rfl | rfl | rfl | rfl | rfl | rfl | rfl | rfl | rfl | rfl | rfl | rfl | rfl | rfl | rfl | rfl | rfl | rfl | rfl | rfl | rfl | rfl | rfl | rfl
    · exact gi_gl_0_1 x
    · exact gi_gl_0_2 x
    · exact gi_gl_0_4 x
    · exact gi_gl_0_5 x
    · exact gi_gl_0_6 x
    · exact gi_gl_0_7 x
    · exact gi_gl_0_8 (by simpa using h)
    · exact gi_gl_0_9 (by simpa using h)
    · exact gi_gl_0_10 (by simpa using h)
    · exact gi_gl_0_11 x
    · exact gi_gl_0_12 x
    · exact gi_gl_0_13 x
    · exact gi_gl_0_14 x
    · exact gi_gl_0_15 x
    · exact gi_gl_0_16 x
    · exact gi_gl_1_0 x
    · exact gi_gl_1_1 x
    · exact gi_gl_1_3 x
    · exact gi_gl_1_4 (by simpa using h)
    · exact gi_gl_1_5 x
    · exact gi_gl_2_1 x
    · exact gi_gl_2_2 x
    · exact gi_gl_2_3 x
    · exact gi_gl_2_4 x
    · exact gi_gl_2_5 x
    · exact gi_gl_2_6 x
    · exact gi_gl_2_7 x
    · exact gi_gl_2_8 x
    · exact gi_gl_2_9 x
    · exact gi_gl_2_10 x
    · exact gi_gl_2_11 x
    · exact gi_gl_2_12 x
    · exact gi_gl_2_13 x
    · exact gi_gl_2_14 x
    · exact gi_gl_2_15 x
    · exact gi_gl_2_16 x
    · exact gi_gl_3_0 x
  | none =>
    rw [ht] at h
    cases hf : gff (sp, row, x) with
    | none => rw [hf] at h; cases h
    | some e =>
      have hm := List.mem_of_find?_eq_some hf
      have hp := List.find?_some hf
      simp only [beq_iff_eq] at hp
      have h3 := gi_gl_F e hm
      rw [hp] at h3
      exact h3
theorem gi_inj {np : Nat} {q q' : Nat × Nat × Nat} (h : gv np q) (h' : gv np q') (he : gi q = gi q') : q = q' := by
  rw [← gl_gi h, ← gl_gi h', he]
theorem gv_sp {np : Nat} {q : Nat × Nat × Nat} (h : gv np q) : q.1 < 4 := by
  obtain ⟨sp, row, x⟩ := q
  unfold gv at h
  cases ht : gtf (sp, row, x) with
  | some e =>
    have hm := List.mem_of_find?_eq_some ht
    have hp := List.find?_some ht
    simp only [Bool.and_eq_true, beq_iff_eq] at hp
    have h4 : ∀ e ∈ gT, e.1 < 4 := by decide
    show sp < 4
    rw [← hp.1]
    exact h4 e hm
  | none =>
    rw [ht] at h
    cases hf : gff (sp, row, x) with
    | none => rw [hf] at h; cases h
    | some e =>
      have hm := List.mem_of_find?_eq_some hf
      have hp := List.find?_some hf
      simp only [beq_iff_eq] at hp
      have h4 : ∀ e ∈ gF, e.2.2.1 < 4 := by decide
      have h5 := h4 e hm
      rw [hp] at h5
      exact h5
def gr (u v : gS) (q : Nat × Nat × Nat) : Int32 := match q.1 with
  | 0 => u.1 q.2.1 q.2.2
  | 1 => u.2.1 q.2.1 q.2.2
  | 2 => v.1 q.2.1 q.2.2
  | _ => v.2.1 q.2.1 q.2.2
def gx (u v : gS) (q : Nat × Nat × Nat) (x : Int32) : gS × gS := match q.1 with
  | 0 => ((gu u.1 q.2.1 q.2.2 x, u.2.1, u.2.2), v)
  | 1 => ((u.1, gu u.2.1 q.2.1 q.2.2 x, u.2.2), v)
  | 2 => (u, (gu v.1 q.2.1 q.2.2 x, v.2.1, v.2.2))
  | _ => (u, (v.1, gu v.2.1 q.2.1 q.2.2 x, v.2.2))
theorem gr_gx_self (u v : gS) (q : Nat × Nat × Nat) (x : Int32) : gr (gx u v q x).1 (gx u v q x).2 q = x := by
  obtain ⟨sp, row, i⟩ := q
  match sp with
  | 0 => exact gu_hit _ _ _ _
  | 1 => exact gu_hit _ _ _ _
  | 2 => exact gu_hit _ _ _ _
  | _ + 3 => exact gu_hit _ _ _ _
theorem gr_gx_ne {u v : gS} {q q' : Nat × Nat × Nat} {x : Int32} (h : q' ≠ q) (hs : q.1 < 4) (hs' : q'.1 < 4) : gr (gx u v q x).1 (gx u v q x).2 q' = gr u v q' := by
  obtain ⟨sp, row, i⟩ := q
  obtain ⟨sp', row', i'⟩ := q'
  have key : sp' = sp → ¬ (row' = row ∧ i' = i) := fun e1 e2 => h (by rw [e1, e2.1, e2.2])
  match sp, sp', hs, hs' with
  | 0, 0, _, _ => exact gu_off (key rfl)
  | 1, 1, _, _ => exact gu_off (key rfl)
  | 2, 2, _, _ => exact gu_off (key rfl)
  | 3, 3, _, _ => exact gu_off (key rfl)
  | 0, 1, _, _ => rfl
  | 0, 2, _, _ => rfl
  | 0, 3, _, _ => rfl
  | 1, 0, _, _ => rfl
  | 1, 2, _, _ => rfl
  | 1, 3, _, _ => rfl
  | 2, 0, _, _ => rfl
  | 2, 1, _, _ => rfl
  | 2, 3, _, _ => rfl
  | 3, 0, _, _ => rfl
  | 3, 1, _, _ => rfl
  | 3, 2, _, _ => rfl
theorem gx_l (u v : gS) (q : Nat × Nat × Nat) (x : Int32) : (gx u v q x).1.2.2 = u.2.2 ∧ (gx u v q x).2.2.2 = v.2.2 := by
  obtain ⟨sp, row, i⟩ := q
  match sp with
  | 0 => exact ⟨rfl, rfl⟩
  | 1 => exact ⟨rfl, rfl⟩
  | 2 => exact ⟨rfl, rfl⟩
  | _ + 3 => exact ⟨rfl, rfl⟩
/-- the world: the whole picture, the class's state u, the reference's state v -/
def gW (g : gG) (A : Nat → Prop) (ad : Nat → Nat) (np : Nat) (u v : gS) (H : Heap) : Prop := ∃ (σ : gA) (τ : gL), va_P g.1 gcl (gw g ad np σ τ) H ∧ va_D A (gw g ad np σ τ) ∧ (∀ q, gv np q → σ (gi q).1 (gi q).2 = gr u v q) ∧ (∀ k, k < 3 → τ (71 + k) = u.2.2 k) ∧ (∀ k, k < 2 → τ (92 + k) = v.2.2 k)
theorem gW_wr {g : gG} {A : Nat → Prop} {ad : Nat → Nat} {np k j : Nat} {u v : gS} {σ : gA} {τ : gL} {x : Int32} {q : Nat × Nat × Nat} {e : va_E} {H1 : Heap} (hq : gv np q) (hg : gi q = (k, j)) (hr : ∀ q, gv np q → σ (gi q).1 (gi q).2 = gr u v q) (hl1 : ∀ k, k < 3 → τ (71 + k) = u.2.2 k) (hl2 : ∀ k, k < 2 → τ (92 + k) = v.2.2 k)
    (he : ge g ad np (gu σ k j x) τ k = e) (hP : va_P g.1 gcl ((gw g ad np σ τ).set k (ad k, e)) H1) (hD : va_D A ((gw g ad np σ τ).set k (ad k, e))) : gW g A ad np (gx u v q x).1 (gx u v q x).2 H1 := by
  have hs := gw_set (g := g) (ad := ad) (np := np) (k := k) (σ := σ) (σ' := gu σ k j x) (τ := τ) (τ' := τ) he (fun k' hk' => ge_congr (gu_ne hk') rfl)
  rw [hs] at hP hD
  refine ⟨_, _, hP, hD, fun q' hq' => ?_, fun k hk => ?_, fun k hk => ?_⟩
  · by_cases e : q' = q
    · subst e
      rw [hg, gr_gx_self]
      exact gu_hit _ _ _ _
    · rw [gr_gx_ne e (gv_sp hq) (gv_sp hq'), ← hr q' hq']
      exact gu_off (fun h => e (gi_inj hq' hq (by rw [hg]; exact Prod.ext h.1 h.2)))
  · rw [(gx_l u v q x).1]; exact hl1 k hk
  · rw [(gx_l u v q x).2]; exact hl2 k hk
theorem gW_wrL {g : gG} {A : Nat → Prop} {ad : Nat → Nat} {np k j : Nat} {u v : gS} {σ : gA} {τ : gL} {x : Int64} {e : va_E} {H1 : Heap} (hk : k < 3) (hr : ∀ q, gv np q → σ (gi q).1 (gi q).2 = gr u v q) (hl1 : ∀ k, k < 3 → τ (71 + k) = u.2.2 k) (hl2 : ∀ k, k < 2 → τ (92 + k) = v.2.2 k)
    (he : ge g ad np σ (guL τ (71 + k) j x) (71 + k) = e) (hP : va_P g.1 gcl ((gw g ad np σ τ).set (71 + k) (ad (71 + k), e)) H1) (hD : va_D A ((gw g ad np σ τ).set (71 + k) (ad (71 + k), e))) : gW g A ad np (u.1, u.2.1, guL u.2.2 k j x) v H1 := by
  have hs := gw_set (g := g) (ad := ad) (np := np) (k := 71 + k) (σ := σ) (σ' := σ) (τ := τ) (τ' := guL τ (71 + k) j x) he (fun k' hk' => ge_congr rfl (guL_ne hk'))
  rw [hs] at hP hD
  refine ⟨_, _, hP, hD, fun q' hq' => ?_, fun k' hk' => ?_, fun k' hk' => ?_⟩
  · rw [hr q' hq']
    obtain ⟨sp, row, i⟩ := q'
    match sp with
    | 0 => rfl
    | 1 => rfl
    | 2 => rfl
    | _ + 3 => rfl
  · by_cases e : k' = k
    · subst e
      rw [guL_self, hl1 k' hk']
      exact (guL_self _ _ _ _).symm
    · rw [guL_ne (show 71 + k' ≠ 71 + k by omega), hl1 k' hk']
      exact (guL_ne e).symm
  · rw [guL_ne (show 92 + k' ≠ 71 + k by omega)]
    exact hl2 k' hk'
theorem gW_wrM {g : gG} {A : Nat → Prop} {ad : Nat → Nat} {np k j : Nat} {u v : gS} {σ : gA} {τ : gL} {x : Int64} {e : va_E} {H1 : Heap} (hk : k < 2) (hr : ∀ q, gv np q → σ (gi q).1 (gi q).2 = gr u v q) (hl1 : ∀ k, k < 3 → τ (71 + k) = u.2.2 k) (hl2 : ∀ k, k < 2 → τ (92 + k) = v.2.2 k)
    (he : ge g ad np σ (guL τ (92 + k) j x) (92 + k) = e) (hP : va_P g.1 gcl ((gw g ad np σ τ).set (92 + k) (ad (92 + k), e)) H1) (hD : va_D A ((gw g ad np σ τ).set (92 + k) (ad (92 + k), e))) : gW g A ad np u (v.1, v.2.1, guL v.2.2 k j x) H1 := by
  have hs := gw_set (g := g) (ad := ad) (np := np) (k := 92 + k) (σ := σ) (σ' := σ) (τ := τ) (τ' := guL τ (92 + k) j x) he (fun k' hk' => ge_congr rfl (guL_ne hk'))
  rw [hs] at hP hD
  refine ⟨_, _, hP, hD, fun q' hq' => ?_, fun k' hk' => ?_, fun k' hk' => ?_⟩
  · rw [hr q' hq']
    obtain ⟨sp, row, i⟩ := q'
    match sp with
    | 0 => rfl
    | 1 => rfl
    | 2 => rfl
    | _ + 3 => rfl
  · rw [guL_ne (show 71 + k' ≠ 92 + k by omega)]
    exact hl1 k' hk'
  · by_cases e : k' = k
    · subst e
      rw [guL_self, hl2 k' hk']
      exact (guL_self _ _ _ _).symm
    · rw [guL_ne (show 92 + k' ≠ 92 + k by omega), hl2 k' hk']
      exact (guL_ne e).symm
theorem gv_0_0_13 (np : Nat) : gv np (0, 0, 13) := show (gff (0, 0, 13)).isSome = true from rfl
theorem gv_0_0_0 (np : Nat) : gv np (0, 0, 0) := show (gff (0, 0, 0)).isSome = true from rfl
theorem gv_0_0_12 (np : Nat) : gv np (0, 0, 12) := show (gff (0, 0, 12)).isSome = true from rfl
theorem gv_0_0_14 (np : Nat) : gv np (0, 0, 14) := show (gff (0, 0, 14)).isSome = true from rfl
theorem gv_0_0_15 (np : Nat) : gv np (0, 0, 15) := show (gff (0, 0, 15)).isSome = true from rfl
theorem gv_0_0_16 (np : Nat) : gv np (0, 0, 16) := show (gff (0, 0, 16)).isSome = true from rfl
theorem gv_0_0_17 (np : Nat) : gv np (0, 0, 17) := show (gff (0, 0, 17)).isSome = true from rfl
theorem gv_0_0_20 (np : Nat) : gv np (0, 0, 20) := show (gff (0, 0, 20)).isSome = true from rfl
theorem gv_0_0_26 (np : Nat) : gv np (0, 0, 26) := show (gff (0, 0, 26)).isSome = true from rfl
theorem gv_0_0_28 (np : Nat) : gv np (0, 0, 28) := show (gff (0, 0, 28)).isSome = true from rfl
theorem gv_0_0_29 (np : Nat) : gv np (0, 0, 29) := show (gff (0, 0, 29)).isSome = true from rfl
theorem gv_0_0_30 (np : Nat) : gv np (0, 0, 30) := show (gff (0, 0, 30)).isSome = true from rfl
theorem gv_0_0_31 (np : Nat) : gv np (0, 0, 31) := show (gff (0, 0, 31)).isSome = true from rfl
theorem gv_0_0_32 (np : Nat) : gv np (0, 0, 32) := show (gff (0, 0, 32)).isSome = true from rfl
theorem gv_0_0_21 (np : Nat) : gv np (0, 0, 21) := show (gff (0, 0, 21)).isSome = true from rfl
theorem gv_1_2_0 (np : Nat) : gv np (1, 2, 0) := show (gff (1, 2, 0)).isSome = true from rfl
theorem gv_0_0_23 (np : Nat) : gv np (0, 0, 23) := show (gff (0, 0, 23)).isSome = true from rfl
theorem gv_0_0_25 (np : Nat) : gv np (0, 0, 25) := show (gff (0, 0, 25)).isSome = true from rfl
theorem gv_1_2_1 (np : Nat) : gv np (1, 2, 1) := show (gff (1, 2, 1)).isSome = true from rfl
theorem gv_2_0_0 (np : Nat) : gv np (2, 0, 0) := show (gff (2, 0, 0)).isSome = true from rfl
theorem gv_2_0_12 (np : Nat) : gv np (2, 0, 12) := show (gff (2, 0, 12)).isSome = true from rfl
theorem gv_2_0_13 (np : Nat) : gv np (2, 0, 13) := show (gff (2, 0, 13)).isSome = true from rfl
theorem gv_2_0_14 (np : Nat) : gv np (2, 0, 14) := show (gff (2, 0, 14)).isSome = true from rfl
theorem gv_2_0_15 (np : Nat) : gv np (2, 0, 15) := show (gff (2, 0, 15)).isSome = true from rfl
theorem gv_2_0_16 (np : Nat) : gv np (2, 0, 16) := show (gff (2, 0, 16)).isSome = true from rfl
theorem gv_2_0_17 (np : Nat) : gv np (2, 0, 17) := show (gff (2, 0, 17)).isSome = true from rfl
theorem gv_2_0_20 (np : Nat) : gv np (2, 0, 20) := show (gff (2, 0, 20)).isSome = true from rfl
theorem gv_2_0_21 (np : Nat) : gv np (2, 0, 21) := show (gff (2, 0, 21)).isSome = true from rfl
theorem gv_2_0_23 (np : Nat) : gv np (2, 0, 23) := show (gff (2, 0, 23)).isSome = true from rfl
theorem gv_2_0_25 (np : Nat) : gv np (2, 0, 25) := show (gff (2, 0, 25)).isSome = true from rfl
theorem gv_2_0_26 (np : Nat) : gv np (2, 0, 26) := show (gff (2, 0, 26)).isSome = true from rfl
theorem gv_2_0_28 (np : Nat) : gv np (2, 0, 28) := show (gff (2, 0, 28)).isSome = true from rfl
theorem gv_2_0_29 (np : Nat) : gv np (2, 0, 29) := show (gff (2, 0, 29)).isSome = true from rfl
theorem gv_2_0_30 (np : Nat) : gv np (2, 0, 30) := show (gff (2, 0, 30)).isSome = true from rfl
theorem gv_2_0_31 (np : Nat) : gv np (2, 0, 31) := show (gff (2, 0, 31)).isSome = true from rfl
theorem gv_2_0_32 (np : Nat) : gv np (2, 0, 32) := show (gff (2, 0, 32)).isSome = true from rfl
theorem gv_2_0_33 (np : Nat) : gv np (2, 0, 33) := show (gff (2, 0, 33)).isSome = true from rfl
theorem gv_0_1 {np p : Nat} (hp : p < np) : gv np (0, 1, p) := show p < 0 + 1 * np by omega
theorem gv_0_2 {np p : Nat} (hp : p < np) : gv np (0, 2, p) := show p < 0 + 1 * np by omega
theorem gv_0_4 {np p i : Nat} (hp : p < np) (hi : i < 8) : gv np (0, 4, 8 * p + i) := show 8 * p + i < 0 + 8 * np by omega
theorem gv_0_5 {np p : Nat} (hp : p < np) : gv np (0, 5, p) := show p < 0 + 1 * np by omega
theorem gv_0_6 {np p i : Nat} (hp : p < np) (hi : i < 5) : gv np (0, 6, 5 * p + i) := show 5 * p + i < 0 + 5 * np by omega
theorem gv_0_7 {np p : Nat} (hp : p < np) : gv np (0, 7, p) := show p < 0 + 1 * np by omega
theorem gv_0_8 {np h i : Nat} (hh : h < 6) (hi : i < 4) : gv np (0, 8, 4 * h + i) := show 4 * h + i < 24 + 0 * np by omega
theorem gi_0_8 (h : Nat) {i : Nat} (hi : i < 4) : gi (0, 8, 4 * h + i) = (4 + 3 * h + 1, i) := by
  show (5 + 3 * ((4 * h + i) / 4), 0 + (4 * h + i) % 4) = _
  exact Prod.ext (show 5 + 3 * ((4 * h + i) / 4) = 4 + 3 * h + 1 by omega) (show 0 + (4 * h + i) % 4 = i by omega)
theorem gv_0_9 {np h i : Nat} (hh : h < 6) (hi : i < 4) : gv np (0, 9, 4 * h + i) := show 4 * h + i < 24 + 0 * np by omega
theorem gi_0_9 (h : Nat) {i : Nat} (hi : i < 4) : gi (0, 9, 4 * h + i) = (4 + 3 * h + 2, i) := by
  show (6 + 3 * ((4 * h + i) / 4), 0 + (4 * h + i) % 4) = _
  exact Prod.ext (show 6 + 3 * ((4 * h + i) / 4) = 4 + 3 * h + 2 by omega) (show 0 + (4 * h + i) % 4 = i by omega)
theorem gv_0_10 {np h : Nat} (hh : h < 6) : gv np (0, 10, h) := show h < 6 + 0 * np by omega
theorem gi_0_10 (h : Nat) : gi (0, 10, h) = (4 + 3 * h, 2) := by
  show (4 + 3 * (h / 1), 2 + h % 1) = _
  rw [Nat.div_one, Nat.mod_one]
theorem gv_0_11 {np x : Nat} (hx : x < 6) : gv np (0, 11, x) := show x < 6 + 0 * np by omega
theorem gv_0_12 {np x : Nat} (hx : x < 32) : gv np (0, 12, x) := show x < 32 + 0 * np by omega
theorem gv_0_13 {np x : Nat} (hx : x < 32) : gv np (0, 13, x) := show x < 32 + 0 * np by omega
theorem gv_0_14 {np x : Nat} (hx : x < 32) : gv np (0, 14, x) := show x < 32 + 0 * np by omega
theorem gv_0_15 {np x : Nat} (hx : x < 32) : gv np (0, 15, x) := show x < 32 + 0 * np by omega
theorem gv_0_16 {np x : Nat} (hx : x < 6) : gv np (0, 16, x) := show x < 6 + 0 * np by omega
theorem gv_1_0 {np p : Nat} (hp : p < np) : gv np (1, 0, p) := show p < 0 + 1 * np by omega
theorem gv_1_1 {np p : Nat} (hp : p < np) : gv np (1, 1, p) := show p < 0 + 1 * np by omega
theorem gv_1_3 {np x : Nat} (hx : x < 32) : gv np (1, 3, x) := show x < 32 + 0 * np by omega
theorem gv_1_4 {np d i : Nat} (hd : d < 32) (hi : i < 5) : gv np (1, 4, 5 * d + i) := show 5 * d + i < 160 + 0 * np by omega
theorem gi_1_4 (d : Nat) {i : Nat} (hi : i < 5) : gi (1, 4, 5 * d + i) = (38 + d, i) := by
  show (38 + 1 * ((5 * d + i) / 5), 0 + (5 * d + i) % 5) = _
  exact Prod.ext (show 38 + 1 * ((5 * d + i) / 5) = 38 + d by omega) (show 0 + (5 * d + i) % 5 = i by omega)
theorem gv_1_5 {np x : Nat} (hx : x < 32) : gv np (1, 5, x) := show x < 32 + 0 * np by omega
theorem gv_2_1 {np x : Nat} (hx : x < 32) : gv np (2, 1, x) := show x < 32 + 0 * np by omega
theorem gv_2_2 {np x : Nat} (hx : x < 32) : gv np (2, 2, x) := show x < 32 + 0 * np by omega
theorem gv_2_3 {np x : Nat} (hx : x < 32) : gv np (2, 3, x) := show x < 32 + 0 * np by omega
theorem gv_2_4 {np x : Nat} (hx : x < 256) : gv np (2, 4, x) := show x < 256 + 0 * np by omega
theorem gv_2_5 {np x : Nat} (hx : x < 32) : gv np (2, 5, x) := show x < 32 + 0 * np by omega
theorem gv_2_6 {np x : Nat} (hx : x < 160) : gv np (2, 6, x) := show x < 160 + 0 * np by omega
theorem gv_2_7 {np x : Nat} (hx : x < 32) : gv np (2, 7, x) := show x < 32 + 0 * np by omega
theorem gv_2_8 {np x : Nat} (hx : x < 24) : gv np (2, 8, x) := show x < 24 + 0 * np by omega
theorem gv_2_9 {np x : Nat} (hx : x < 24) : gv np (2, 9, x) := show x < 24 + 0 * np by omega
theorem gv_2_10 {np x : Nat} (hx : x < 6) : gv np (2, 10, x) := show x < 6 + 0 * np by omega
theorem gv_2_11 {np x : Nat} (hx : x < 6) : gv np (2, 11, x) := show x < 6 + 0 * np by omega
theorem gv_2_12 {np x : Nat} (hx : x < 32) : gv np (2, 12, x) := show x < 32 + 0 * np by omega
theorem gv_2_13 {np x : Nat} (hx : x < 32) : gv np (2, 13, x) := show x < 32 + 0 * np by omega
theorem gv_2_14 {np x : Nat} (hx : x < 32) : gv np (2, 14, x) := show x < 32 + 0 * np by omega
theorem gv_2_15 {np x : Nat} (hx : x < 32) : gv np (2, 15, x) := show x < 32 + 0 * np by omega
theorem gv_2_16 {np x : Nat} (hx : x < 6) : gv np (2, 16, x) := show x < 6 + 0 * np by omega
theorem gv_3_0 {np x : Nat} (hx : x < 160) : gv np (3, 0, x) := show x < 160 + 0 * np by omega
end
section
/-! Rows over the world: reading and writing fields and arrays by cell numbers. -/
section GRW
variable {p : Program} {l : Launch} {e : Env} {R : Room} {s : State} {m : MethodId} {args : Array Value} {below : List Frame} {meth : Method} {c : Code} {H : Heap} {locs : List Loc} {cells slots : Nat} {Q : State → Prop}
variable {cc : ByteArray} {pc : Nat} {ls : Array Slot} {rest : List Value} {g : gG} {A : Nat → Prop} {ad : Nat → Nat} {np : Nat} {u v : gS} {H0 : Heap} {Ts : List Cond} {own ref C host : String} {T : u_T} {N ci index k j : Nat} {fs : (Nat → Int32) → List Value} {q : Nat × Nat × Nat} {z : Int32}
theorem gy_gi (hexec : p.tables.exec = Jvm.exec) (hb : c.code = cc) (hts : ∀ w ∈ Ts, w.before args s = true) (hin : ∀ w ∈ u_ws C T N, w ∈ Ts) (hown : s.vm.findClass own = some m.cls) (hK : va_K g.1 gcl (gty g) s) (hc : gcl[ci]? = some (C, T, N)) (hj : j < N) (hlink : (Cond.fieldLink own index ref (T j).2.1 (T j).2.2.1).before args s = true) (hsame : ∀ x, s.fieldFound? (T j).1 (T j).2.1 (T j).2.2.1 = some x → s.fieldFound? ref (T j).2.1 (T j).2.2.1 = some x) (hfj : ∀ r, (fs r)[j]? = some (.int (r j)))
    (hW : gW g A ad np u v H) (hk : k < 94 + 5 * np) (hce : ∀ σ τ, ge g ad np σ τ k = .inr (ci, fs (σ k))) (hq : gv np q) (hg : gi q = (k, j)) (hz : gr u v q = z) (hdg : decode cc pc = .ok (.getfield index, 3))
    (kk : W p l e R s m args below meth c H locs cells slots Q (F0 m (pc + 3) ls (.int z :: rest))) : W p l e R s m args below meth c H locs cells slots Q (F0 m pc ls (.ref (ad k) :: rest)) := by
  obtain ⟨σ, τ, hP, hD, hr, hl1, hl2⟩ := hW
  have hz2 : σ k j = z := by rw [← hz, ← hr q hq, hg]
  exact va_get (v := .int z) hexec hb hts hin hown hK hP k ((gw_at hk).trans (by rw [hce])) hc j hj hlink hsame (by rw [hfj, hz2]) hdg kk
theorem gy_giN (hexec : p.tables.exec = Jvm.exec) (hb : c.code = cc) (hts : ∀ w ∈ Ts, w.before args s = true) (hin : ∀ w ∈ u_ws C T N, w ∈ Ts) (hown : s.vm.findClass own = some m.cls) (hK : va_K g.1 gcl (gty g) s) (hc : gcl[ci]? = some (C, T, N)) (hj : j < N) (hlink : (Cond.fieldLinkNest own index ref (T j).2.1 (T j).2.2.1 host).before args s = true) (hsame : ∀ x, s.fieldFound? (T j).1 (T j).2.1 (T j).2.2.1 = some x → s.fieldFound? ref (T j).2.1 (T j).2.2.1 = some x) (hfj : ∀ r, (fs r)[j]? = some (.int (r j)))
    (hW : gW g A ad np u v H) (hk : k < 94 + 5 * np) (hce : ∀ σ τ, ge g ad np σ τ k = .inr (ci, fs (σ k))) (hq : gv np q) (hg : gi q = (k, j)) (hz : gr u v q = z) (hdg : decode cc pc = .ok (.getfield index, 3))
    (kk : W p l e R s m args below meth c H locs cells slots Q (F0 m (pc + 3) ls (.int z :: rest))) : W p l e R s m args below meth c H locs cells slots Q (F0 m pc ls (.ref (ad k) :: rest)) := by
  obtain ⟨σ, τ, hP, hD, hr, hl1, hl2⟩ := hW
  have hz2 : σ k j = z := by rw [← hz, ← hr q hq, hg]
  exact va_getN (v := .int z) hexec hb hts hin hown hK hP k ((gw_at hk).trans (by rw [hce])) hc j hj hlink hsame (by rw [hfj, hz2]) hdg kk
/-- a field that holds a cell of the picture (or an enum's constant, by its place) -/
theorem gy_gr {t : Nat} (hexec : p.tables.exec = Jvm.exec) (hb : c.code = cc) (hts : ∀ w ∈ Ts, w.before args s = true) (hin : ∀ w ∈ u_ws C T N, w ∈ Ts) (hown : s.vm.findClass own = some m.cls) (hK : va_K g.1 gcl (gty g) s) (hc : gcl[ci]? = some (C, T, N)) (hj : j < N) (hlink : (Cond.fieldLink own index ref (T j).2.1 (T j).2.2.1).before args s = true) (hsame : ∀ x, s.fieldFound? (T j).1 (T j).2.1 (T j).2.2.1 = some x → s.fieldFound? ref (T j).2.1 (T j).2.2.1 = some x) (hfj : ∀ r, (fs r)[j]? = some (.ref (ad t)))
    (hW : gW g A ad np u v H) (hk : k < 94 + 5 * np) (hce : ∀ σ τ, ge g ad np σ τ k = .inr (ci, fs (σ k))) (hdg : decode cc pc = .ok (.getfield index, 3))
    (kk : W p l e R s m args below meth c H locs cells slots Q (F0 m (pc + 3) ls (.ref (ad t) :: rest))) : W p l e R s m args below meth c H locs cells slots Q (F0 m pc ls (.ref (ad k) :: rest)) := by
  obtain ⟨σ, τ, hP, hD, hr, hl1, hl2⟩ := hW
  exact va_get (v := .ref (ad t)) hexec hb hts hin hown hK hP k ((gw_at hk).trans (by rw [hce])) hc j hj hlink hsame (hfj _) hdg kk
theorem gy_grN {t : Nat} (hexec : p.tables.exec = Jvm.exec) (hb : c.code = cc) (hts : ∀ w ∈ Ts, w.before args s = true) (hin : ∀ w ∈ u_ws C T N, w ∈ Ts) (hown : s.vm.findClass own = some m.cls) (hK : va_K g.1 gcl (gty g) s) (hc : gcl[ci]? = some (C, T, N)) (hj : j < N) (hlink : (Cond.fieldLinkNest own index ref (T j).2.1 (T j).2.2.1 host).before args s = true) (hsame : ∀ x, s.fieldFound? (T j).1 (T j).2.1 (T j).2.2.1 = some x → s.fieldFound? ref (T j).2.1 (T j).2.2.1 = some x) (hfj : ∀ r, (fs r)[j]? = some (.ref (ad t)))
    (hW : gW g A ad np u v H) (hk : k < 94 + 5 * np) (hce : ∀ σ τ, ge g ad np σ τ k = .inr (ci, fs (σ k))) (hdg : decode cc pc = .ok (.getfield index, 3))
    (kk : W p l e R s m args below meth c H locs cells slots Q (F0 m (pc + 3) ls (.ref (ad t) :: rest))) : W p l e R s m args below meth c H locs cells slots Q (F0 m pc ls (.ref (ad k) :: rest)) := by
  obtain ⟨σ, τ, hP, hD, hr, hl1, hl2⟩ := hW
  exact va_getN (v := .ref (ad t)) hexec hb hts hin hown hK hP k ((gw_at hk).trans (by rw [hce])) hc j hj hlink hsame (hfj _) hdg kk
/-- a page's reply -/
theorem gy_geN (hexec : p.tables.exec = Jvm.exec) (hb : c.code = cc) (hts : ∀ w ∈ Ts, w.before args s = true) (hin : ∀ w ∈ u_ws C T N, w ∈ Ts) (hown : s.vm.findClass own = some m.cls) (hK : va_K g.1 gcl (gty g) s) (hc : gcl[ci]? = some (C, T, N)) (hj : j < N) (hlink : (Cond.fieldLinkNest own index ref (T j).2.1 (T j).2.2.1 host).before args s = true) (hsame : ∀ x, s.fieldFound? (T j).1 (T j).2.1 (T j).2.2.1 = some x → s.fieldFound? ref (T j).2.1 (T j).2.2.1 = some x) (hfj : ∀ r, (fs r)[j]? = some (.ref (g.2.2 (r j).toNatClampNeg)))
    (hW : gW g A ad np u v H) (hk : k < 94 + 5 * np) (hce : ∀ σ τ, ge g ad np σ τ k = .inr (ci, fs (σ k))) (hq : gv np q) (hg : gi q = (k, j)) (hz : gr u v q = z) (hdg : decode cc pc = .ok (.getfield index, 3))
    (kk : W p l e R s m args below meth c H locs cells slots Q (F0 m (pc + 3) ls (.ref (g.2.2 z.toNatClampNeg) :: rest))) : W p l e R s m args below meth c H locs cells slots Q (F0 m pc ls (.ref (ad k) :: rest)) := by
  obtain ⟨σ, τ, hP, hD, hr, hl1, hl2⟩ := hW
  have hz2 : σ k j = z := by rw [← hz, ← hr q hq, hg]
  exact va_getN (v := .ref (g.2.2 z.toNatClampNeg)) hexec hb hts hin hown hK hP k ((gw_at hk).trans (by rw [hce])) hc j hj hlink hsame (by rw [hfj, hz2]) hdg kk
theorem gy_pi {ty : FieldType} (hexec : p.tables.exec = Jvm.exec) (hb : c.code = cc) (hts : ∀ w ∈ Ts, w.before args s = true) (hin : ∀ w ∈ u_ws C T N, w ∈ Ts) (ty0 : Nat → FieldType) (hty : ∀ k, k < N → parseFieldDescriptor (T k).2.2.1 = some (ty0 k)) (hnm : ∀ a, a < N → ∀ b, b < N → a ≠ b → (T a).2.1 ≠ (T b).2.1) (hown : s.vm.findClass own = some m.cls) (hK : va_K g.1 gcl (gty g) s) (hc : gcl[ci]? = some (C, T, N)) (hj : j < N) (hlink : (Cond.fieldLink own index ref (T j).2.1 (T j).2.2.1).before args s = true) (hsame : ∀ x, s.fieldFound? (T j).1 (T j).2.1 (T j).2.2.1 = some x → s.fieldFound? ref (T j).2.1 (T j).2.2.1 = some x) (hfin : (T j).2.2.2 = false) (hd : parseFieldDescriptor (T j).2.2.1 = some ty) (hl : ∀ r, j < (fs r).length) (hfs : ∀ r x, fs (upd r j x) = (fs r).set j (.int x))
    (hW : gW g A ad np u v H) (hS : va_S A H0 H locs) (hk : k < 94 + 5 * np) (hce : ∀ σ τ, ge g ad np σ τ k = .inr (ci, fs (σ k))) (hq : gv np q) (hg : gi q = (k, j)) (hn : narrow ty (.int z) = .int z) (hfit : fits ty (.int z) = true) (hdg : decode cc pc = .ok (.putfield index, 3))
    (kk : ∀ (H1 : Heap) (locs1 : List Loc), gW g A ad np (gx u v q z).1 (gx u v q z).2 H1 → va_S A H0 H1 locs1 → W p l e R s m args below meth c H1 locs1 cells slots Q (F0 m (pc + 3) ls rest)) : W p l e R s m args below meth c H locs cells slots Q (F0 m pc ls (.int z :: .ref (ad k) :: rest)) := by
  obtain ⟨σ, τ, hP, hD, hr, hl1, hl2⟩ := hW
  refine va_put (v := .int z) (fs := fs (σ k)) hexec hb hts hin ty0 hty hnm hown hK hP hD hS k ((gw_at hk).trans (by rw [hce])) hc j hj hlink hsame hfin hd hn hfit (hl _) hdg (fun H1 locs1 hP1 hD1 hS1 => ?_)
  exact kk H1 locs1 (gW_wr hq hg hr hl1 hl2 (by rw [hce, gu_self, hfs]) hP1 hD1) hS1
theorem gy_piN {ty : FieldType} (hexec : p.tables.exec = Jvm.exec) (hb : c.code = cc) (hts : ∀ w ∈ Ts, w.before args s = true) (hin : ∀ w ∈ u_ws C T N, w ∈ Ts) (ty0 : Nat → FieldType) (hty : ∀ k, k < N → parseFieldDescriptor (T k).2.2.1 = some (ty0 k)) (hnm : ∀ a, a < N → ∀ b, b < N → a ≠ b → (T a).2.1 ≠ (T b).2.1) (hown : s.vm.findClass own = some m.cls) (hK : va_K g.1 gcl (gty g) s) (hc : gcl[ci]? = some (C, T, N)) (hj : j < N) (hlink : (Cond.fieldLinkNest own index ref (T j).2.1 (T j).2.2.1 host).before args s = true) (hsame : ∀ x, s.fieldFound? (T j).1 (T j).2.1 (T j).2.2.1 = some x → s.fieldFound? ref (T j).2.1 (T j).2.2.1 = some x) (hfin : (T j).2.2.2 = false) (hd : parseFieldDescriptor (T j).2.2.1 = some ty) (hl : ∀ r, j < (fs r).length) (hfs : ∀ r x, fs (upd r j x) = (fs r).set j (.int x))
    (hW : gW g A ad np u v H) (hS : va_S A H0 H locs) (hk : k < 94 + 5 * np) (hce : ∀ σ τ, ge g ad np σ τ k = .inr (ci, fs (σ k))) (hq : gv np q) (hg : gi q = (k, j)) (hn : narrow ty (.int z) = .int z) (hfit : fits ty (.int z) = true) (hdg : decode cc pc = .ok (.putfield index, 3))
    (kk : ∀ (H1 : Heap) (locs1 : List Loc), gW g A ad np (gx u v q z).1 (gx u v q z).2 H1 → va_S A H0 H1 locs1 → W p l e R s m args below meth c H1 locs1 cells slots Q (F0 m (pc + 3) ls rest)) : W p l e R s m args below meth c H locs cells slots Q (F0 m pc ls (.int z :: .ref (ad k) :: rest)) := by
  obtain ⟨σ, τ, hP, hD, hr, hl1, hl2⟩ := hW
  refine va_putN (v := .int z) (fs := fs (σ k)) hexec hb hts hin ty0 hty hnm hown hK hP hD hS k ((gw_at hk).trans (by rw [hce])) hc j hj hlink hsame hfin hd hn hfit (hl _) hdg (fun H1 locs1 hP1 hD1 hS1 => ?_)
  exact kk H1 locs1 (gW_wr hq hg hr hl1 hl2 (by rw [hce, gu_self, hfs]) hP1 hD1) hS1
/-- a page's reply is set -/
theorem gy_peN {ty : FieldType} (hexec : p.tables.exec = Jvm.exec) (hb : c.code = cc) (hts : ∀ w ∈ Ts, w.before args s = true) (hin : ∀ w ∈ u_ws C T N, w ∈ Ts) (ty0 : Nat → FieldType) (hty : ∀ k, k < N → parseFieldDescriptor (T k).2.2.1 = some (ty0 k)) (hnm : ∀ a, a < N → ∀ b, b < N → a ≠ b → (T a).2.1 ≠ (T b).2.1) (hown : s.vm.findClass own = some m.cls) (hK : va_K g.1 gcl (gty g) s) (hc : gcl[ci]? = some (C, T, N)) (hj : j < N) (hlink : (Cond.fieldLinkNest own index ref (T j).2.1 (T j).2.2.1 host).before args s = true) (hsame : ∀ x, s.fieldFound? (T j).1 (T j).2.1 (T j).2.2.1 = some x → s.fieldFound? ref (T j).2.1 (T j).2.2.1 = some x) (hfin : (T j).2.2.2 = false) (hd : parseFieldDescriptor (T j).2.2.1 = some ty) (hl : ∀ r, j < (fs r).length) (hfs : ∀ r x, fs (upd r j x) = (fs r).set j (.ref (g.2.2 x.toNatClampNeg)))
    (hW : gW g A ad np u v H) (hS : va_S A H0 H locs) (hk : k < 94 + 5 * np) (hce : ∀ σ τ, ge g ad np σ τ k = .inr (ci, fs (σ k))) (hq : gv np q) (hg : gi q = (k, j)) {w : Nat} (hw : z.toNatClampNeg = w) (hn : narrow ty (.ref (g.2.2 w)) = .ref (g.2.2 w)) (hfit : fits ty (.ref (g.2.2 w)) = true) (hdg : decode cc pc = .ok (.putfield index, 3))
    (kk : ∀ (H1 : Heap) (locs1 : List Loc), gW g A ad np (gx u v q z).1 (gx u v q z).2 H1 → va_S A H0 H1 locs1 → W p l e R s m args below meth c H1 locs1 cells slots Q (F0 m (pc + 3) ls rest)) : W p l e R s m args below meth c H locs cells slots Q (F0 m pc ls (.ref (g.2.2 w) :: .ref (ad k) :: rest)) := by
  obtain ⟨σ, τ, hP, hD, hr, hl1, hl2⟩ := hW
  subst hw
  refine va_putN (v := .ref (g.2.2 z.toNatClampNeg)) (fs := fs (σ k)) hexec hb hts hin ty0 hty hnm hown hK hP hD hS k ((gw_at hk).trans (by rw [hce])) hc j hj hlink hsame hfin hd hn hfit (hl _) hdg (fun H1 locs1 hP1 hD1 hS1 => ?_)
  exact kk H1 locs1 (gW_wr hq hg hr hl1 hl2 (by rw [hce, gu_self, hfs]) hP1 hD1) hS1
-- arrays
theorem gy_ia (hexec : p.tables.exec = Jvm.exec) (hb : c.code = cc) (hK : va_K g.1 gcl (gty g) s) (hW : gW g A ad np u v H) (hk : k < 94 + 5 * np) (h8 : gk k = 8) {i : Int32} (hin : vp_in i (gn k)) (hq : gv np q) (hg : gi q = (k, i.toNatClampNeg)) (hz : gr u v q = z) (hdg : decode cc pc = .ok (.iaload, 1))
    (kk : W p l e R s m args below meth c H locs cells slots Q (F0 m (pc + 1) ls (.int z :: rest))) : W p l e R s m args below meth c H locs cells slots Q (F0 m pc ls (.int i :: .ref (ad k) :: rest)) := by
  obtain ⟨σ, τ, hP, hD, hr, hl1, hl2⟩ := hW
  have hz2 : σ k i.toNatClampNeg = z := by rw [← hz, ← hr q hq, hg]
  refine va_iald hexec hb hK hP k 0 ((gw_at hk).trans (by rw [ge_8 h8])) rfl hin hdg ?_
  rw [hz2]
  exact kk
theorem gy_is (hexec : p.tables.exec = Jvm.exec) (hb : c.code = cc) (hK : va_K g.1 gcl (gty g) s) (hW : gW g A ad np u v H) (hS : va_S A H0 H locs) (hk : k < 94 + 5 * np) (h8 : gk k = 8) {i : Int32} (hin : vp_in i (gn k)) (hq : gv np q) (hg : gi q = (k, i.toNatClampNeg)) (hdg : decode cc pc = .ok (.iastore, 1))
    (kk : ∀ (H1 : Heap) (locs1 : List Loc), gW g A ad np (gx u v q z).1 (gx u v q z).2 H1 → va_S A H0 H1 locs1 → W p l e R s m args below meth c H1 locs1 cells slots Q (F0 m (pc + 1) ls rest)) : W p l e R s m args below meth c H locs cells slots Q (F0 m pc ls (.int z :: .int i :: .ref (ad k) :: rest)) := by
  obtain ⟨σ, τ, hP, hD, hr, hl1, hl2⟩ := hW
  refine va_iast hexec hb hK hP hD hS k 0 ((gw_at hk).trans (by rw [ge_8 h8])) rfl hin hdg (fun H1 locs1 hP1 hD1 hS1 => ?_)
  exact kk H1 locs1 (gW_wr hq hg hr hl1 hl2 (by rw [ge_8 h8, gu_self]) hP1 hD1) hS1
theorem gy_za (hexec : p.tables.exec = Jvm.exec) (hb : c.code = cc) (hK : va_K g.1 gcl (gty g) s) (hW : gW g A ad np u v H) (hk : k < 94 + 5 * np) (h8 : gk k = 9) {i : Int32} (hin : vp_in i (gn k)) (hq : gv np q) (hg : gi q = (k, i.toNatClampNeg)) (hz : gr u v q = z) (hdg : decode cc pc = .ok (.baload, 1))
    (kk : W p l e R s m args below meth c H locs cells slots Q (F0 m (pc + 1) ls (.int z :: rest))) : W p l e R s m args below meth c H locs cells slots Q (F0 m pc ls (.int i :: .ref (ad k) :: rest)) := by
  obtain ⟨σ, τ, hP, hD, hr, hl1, hl2⟩ := hW
  have hz2 : σ k i.toNatClampNeg = z := by rw [← hz, ← hr q hq, hg]
  refine va_zald hexec hb hK hP k 1 ((gw_at hk).trans (by rw [ge_9 h8])) rfl hin hdg ?_
  rw [hz2]
  exact kk
theorem gy_zs (hexec : p.tables.exec = Jvm.exec) (hb : c.code = cc) (hK : va_K g.1 gcl (gty g) s) (hW : gW g A ad np u v H) (hS : va_S A H0 H locs) (hk : k < 94 + 5 * np) (h8 : gk k = 9) {i : Int32} (hin : vp_in i (gn k)) (hnz : vp_nar .boolean z = z) (hq : gv np q) (hg : gi q = (k, i.toNatClampNeg)) (hdg : decode cc pc = .ok (.bastore, 1))
    (kk : ∀ (H1 : Heap) (locs1 : List Loc), gW g A ad np (gx u v q z).1 (gx u v q z).2 H1 → va_S A H0 H1 locs1 → W p l e R s m args below meth c H1 locs1 cells slots Q (F0 m (pc + 1) ls rest)) : W p l e R s m args below meth c H locs cells slots Q (F0 m pc ls (.int z :: .int i :: .ref (ad k) :: rest)) := by
  obtain ⟨σ, τ, hP, hD, hr, hl1, hl2⟩ := hW
  refine va_zast hexec hb hK hP hD hS k 1 ((gw_at hk).trans (by rw [ge_9 h8])) rfl hin hdg (fun H1 locs1 hP1 hD1 hS1 => ?_)
  rw [hnz] at hP1 hD1
  exact kk H1 locs1 (gW_wr hq hg hr hl1 hl2 (by rw [ge_9 h8, gu_self]) hP1 hD1) hS1
theorem gy_la {w : Int64} (hexec : p.tables.exec = Jvm.exec) (hb : c.code = cc) (hK : va_K g.1 gcl (gty g) s) (hW : gW g A ad np u v H) (hk : k < 3) {i : Int32} (hin : vp_in i 32) (hz : u.2.2 k i.toNatClampNeg = w) (hdg : decode cc pc = .ok (.laload, 1))
    (kk : W p l e R s m args below meth c H locs cells slots Q (F0 m (pc + 1) ls (.long w :: rest))) : W p l e R s m args below meth c H locs cells slots Q (F0 m pc ls (.int i :: .ref (ad (71 + k)) :: rest)) := by
  obtain ⟨σ, τ, hP, hD, hr, hl1, hl2⟩ := hW
  have hk9 : gk (71 + k) = 10 ∧ gn (71 + k) = 32 := (show ∀ k : Fin 3, gk (71 + k.val) = 10 ∧ gn (71 + k.val) = 32 by decide) ⟨k, hk⟩
  have hz2 : τ (71 + k) i.toNatClampNeg = w := by rw [← hz, hl1 k hk]
  refine va_lald hexec hb hK hP (71 + k) 2 ((gw_at (by omega)).trans (by rw [ge_10 hk9.1])) rfl (by rw [hk9.2]; exact hin) hdg ?_
  rw [hz2]
  exact kk
theorem gy_lsC {w : Int64} (hexec : p.tables.exec = Jvm.exec) (hb : c.code = cc) (hK : va_K g.1 gcl (gty g) s) (hW : gW g A ad np u v H) (hS : va_S A H0 H locs) (hk : k < 3) {i : Int32} (hin : vp_in i 32) (hdg : decode cc pc = .ok (.lastore, 1))
    (kk : ∀ (H1 : Heap) (locs1 : List Loc), gW g A ad np (u.1, u.2.1, guL u.2.2 k i.toNatClampNeg w) v H1 → va_S A H0 H1 locs1 → W p l e R s m args below meth c H1 locs1 cells slots Q (F0 m (pc + 1) ls rest)) : W p l e R s m args below meth c H locs cells slots Q (F0 m pc ls (.long w :: .int i :: .ref (ad (71 + k)) :: rest)) := by
  obtain ⟨σ, τ, hP, hD, hr, hl1, hl2⟩ := hW
  have hk9 : gk (71 + k) = 10 ∧ gn (71 + k) = 32 := (show ∀ k : Fin 3, gk (71 + k.val) = 10 ∧ gn (71 + k.val) = 32 by decide) ⟨k, hk⟩
  refine va_last hexec hb hK hP hD hS (71 + k) 2 ((gw_at (by omega)).trans (by rw [ge_10 hk9.1])) rfl (by rw [hk9.2]; exact hin) hdg (fun H1 locs1 hP1 hD1 hS1 => ?_)
  exact kk H1 locs1 (gW_wrL hk hr hl1 hl2 (by rw [ge_10 hk9.1, guL_self]) hP1 hD1) hS1
theorem gy_laM {w : Int64} (hexec : p.tables.exec = Jvm.exec) (hb : c.code = cc) (hK : va_K g.1 gcl (gty g) s) (hW : gW g A ad np u v H) (hk : k < 2) {i : Int32} (hin : vp_in i 32) (hz : v.2.2 k i.toNatClampNeg = w) (hdg : decode cc pc = .ok (.laload, 1))
    (kk : W p l e R s m args below meth c H locs cells slots Q (F0 m (pc + 1) ls (.long w :: rest))) : W p l e R s m args below meth c H locs cells slots Q (F0 m pc ls (.int i :: .ref (ad (92 + k)) :: rest)) := by
  obtain ⟨σ, τ, hP, hD, hr, hl1, hl2⟩ := hW
  have hk9 : gk (92 + k) = 10 ∧ gn (92 + k) = 32 := (show ∀ k : Fin 2, gk (92 + k.val) = 10 ∧ gn (92 + k.val) = 32 by decide) ⟨k, hk⟩
  have hz2 : τ (92 + k) i.toNatClampNeg = w := by rw [← hz, hl2 k hk]
  refine va_lald hexec hb hK hP (92 + k) 2 ((gw_at (by omega)).trans (by rw [ge_10 hk9.1])) rfl (by rw [hk9.2]; exact hin) hdg ?_
  rw [hz2]
  exact kk
theorem gy_lsM {w : Int64} (hexec : p.tables.exec = Jvm.exec) (hb : c.code = cc) (hK : va_K g.1 gcl (gty g) s) (hW : gW g A ad np u v H) (hS : va_S A H0 H locs) (hk : k < 2) {i : Int32} (hin : vp_in i 32) (hdg : decode cc pc = .ok (.lastore, 1))
    (kk : ∀ (H1 : Heap) (locs1 : List Loc), gW g A ad np u (v.1, v.2.1, guL v.2.2 k i.toNatClampNeg w) H1 → va_S A H0 H1 locs1 → W p l e R s m args below meth c H1 locs1 cells slots Q (F0 m (pc + 1) ls rest)) : W p l e R s m args below meth c H locs cells slots Q (F0 m pc ls (.long w :: .int i :: .ref (ad (92 + k)) :: rest)) := by
  obtain ⟨σ, τ, hP, hD, hr, hl1, hl2⟩ := hW
  have hk9 : gk (92 + k) = 10 ∧ gn (92 + k) = 32 := (show ∀ k : Fin 2, gk (92 + k.val) = 10 ∧ gn (92 + k.val) = 32 by decide) ⟨k, hk⟩
  refine va_last hexec hb hK hP hD hS (92 + k) 2 ((gw_at (by omega)).trans (by rw [ge_10 hk9.1])) rfl (by rw [hk9.2]; exact hin) hdg (fun H1 locs1 hP1 hD1 hS1 => ?_)
  exact kk H1 locs1 (gW_wrM hk hr hl1 hl2 (by rw [ge_10 hk9.1, guL_self]) hP1 hD1) hS1
theorem gy_aP (hexec : p.tables.exec = Jvm.exec) (hb : c.code = cc) (hK : va_K g.1 gcl (gty g) s) (hW : gW g A ad np u v H) {i : Nat} (hi : i < np) (hnp : np ≤ 32) {x : Int32} (hx : x = nI i) (hdg : decode cc pc = .ok (.aaload, 1))
    (kk : W p l e R s m args below meth c H locs cells slots Q (F0 m (pc + 1) ls (.ref (ad (gp i)) :: rest))) : W p l e R s m args below meth c H locs cells slots Q (F0 m pc ls (.int x :: .ref (ad 2) :: rest)) := by
  obtain ⟨σ, τ, hP, hD, hr, hl1, hl2⟩ := hW
  subst hx
  refine va_aldq hexec hb hK hP 2 3 (gw_at (by omega)) rfl (vp_in_nI (by omega) (by omega)) hdg ?_
  rw [nI_clamp (by omega), if_pos hi]
  exact kk
theorem gy_aH (hexec : p.tables.exec = Jvm.exec) (hb : c.code = cc) (hK : va_K g.1 gcl (gty g) s) (hW : gW g A ad np u v H) {i : Nat} (hi : i < 6) {x : Int32} (hx : x = nI i) (hdg : decode cc pc = .ok (.aaload, 1))
    (kk : W p l e R s m args below meth c H locs cells slots Q (F0 m (pc + 1) ls (.ref (ad (4 + 3 * i)) :: rest))) : W p l e R s m args below meth c H locs cells slots Q (F0 m pc ls (.int x :: .ref (ad 3) :: rest)) := by
  obtain ⟨σ, τ, hP, hD, hr, hl1, hl2⟩ := hW
  subst hx
  refine va_aldq hexec hb hK hP 3 4 (gw_at (by omega)) rfl (vp_in_nI hi (by omega)) hdg ?_
  rw [nI_clamp (by omega)]
  exact kk
theorem gy_aldA {D : va_G} {cl : List vw_C} {tys : List (ClassId × FieldType)} {ws : va_W} {a : Nat} (hexec : p.tables.exec = Jvm.exec) (hb : c.code = cc) (hK : va_K D cl tys s) (hP : va_P D cl ws H) (q0 t0 : Nat) {cA : ClassId} {t : FieldType} {n : Nat} {f : Nat → Option Nat} (ha : ws[q0]? = some (a, .inl (cA, n, .inr (.inr (.inr (.inr f)))))) (ht : tys[t0]? = some (cA, .array t)) {i : Int32} (hin : vp_in i n) (hdg : decode cc pc = .ok (.aaload, 1))
    (kk : W p l e R s m args below meth c H locs cells slots Q (F0 m (pc + 1) ls (va_rf (f i.toNatClampNeg) :: rest))) : W p l e R s m args below meth c H locs cells slots Q (F0 m pc ls (.int i :: .ref a :: rest)) := by
  have hlt : i.toNatClampNeg < n := Nat.not_le.mp fun q => hin (Or.inr q)
  exact W.aald (v := va_rf (f i.toNatClampNeg)) (ty := .array t) hexec hb (hP q0 _ ha) ((hK.2 t0 _ ht).1 n (fun j => va_rf (f j))) rfl (fun q => by cases q) (by show ¬ (i < 0 ∨ (arrV _ _ _).slots.size ≤ _); rw [arrV_size]; exact hin) (by show (arrV _ _ _).slots[_]? = _; rw [arrV_read _ _ hlt]) rfl rfl hdg kk
theorem gy_aL (hexec : p.tables.exec = Jvm.exec) (hb : c.code = cc) (hK : va_K g.1 gcl (gty g) s) (hW : gW g A ad np u v H) {i : Nat} (hi : i < 32) {x : Int32} (hx : x = nI i) (hdg : decode cc pc = .ok (.aaload, 1))
    (kk : W p l e R s m args below meth c H locs cells slots Q (F0 m (pc + 1) ls (.ref (ad (38 + i)) :: rest))) : W p l e R s m args below meth c H locs cells slots Q (F0 m pc ls (.int x :: .ref (ad 37) :: rest)) := by
  obtain ⟨σ, τ, hP, hD, hr, hl1, hl2⟩ := hW
  subst hx
  refine gy_aldA (t := .int) hexec hb hK hP 37 5 (gw_at (by omega)) rfl (vp_in_nI hi (by omega)) hdg ?_
  rw [nI_clamp (by omega)]
  exact kk
theorem gy_al (hexec : p.tables.exec = Jvm.exec) (hb : c.code = cc) (hK : va_K g.1 gcl (gty g) s) (hW : gW g A ad np u v H) (hk : k < 94 + 5 * np) (h8 : gk k = 8) {n : Nat} (hn : gn k = n) (hdg : decode cc pc = .ok (.arraylength, 1))
    (kk : W p l e R s m args below meth c H locs cells slots Q (F0 m (pc + 1) ls (.int (nI n) :: rest))) : W p l e R s m args below meth c H locs cells slots Q (F0 m pc ls (.ref (ad k) :: rest)) := by
  obtain ⟨σ, τ, hP, hD, hr, hl1, hl2⟩ := hW
  exact va_alen hexec hb hK hP k 0 ((gw_at hk).trans (by rw [ge_8 h8])) (ty := .int) rfl (by rw [hn]; rfl) hdg kk
theorem gW_recv (hK : va_K g.1 gcl (gty g) s) (hW : gW g A ad np u v H) (hk : k < 94 + 5 * np) (hce : ∀ σ τ, ge g ad np σ τ k = .inr (ci, fs (σ k))) {r : vw_C} (hc : gcl[ci]? = some r) : ∃ cell : Cell, H[ad k]? = some cell ∧ cell.vm.isStatics = false ∧ s.vm.findClass r.1 = some cell.cls := by
  obtain ⟨σ, τ, hP, hD, hr, hl1, hl2⟩ := hW
  exact va_recv hK hP hc ((gw_at hk).trans (by rw [hce]))
end GRW
end
section
/-! Contracts over the world, and calls by them. -/
def rmD (d c s : Nat) : Room := { frames := d, cells := c, slots := s, locals := 40 * d }
def gWG : List Cond := lw_tbl.filter goodWord
theorem gWG_in {w : Cond} (h : w ∈ lw_tbl) (hg : goodWord w = true) : w ∈ gWG := List.mem_filter.mpr ⟨h, hg⟩
theorem gWG_good {x : Cond} {ws : List Cond} (h : ∀ w ∈ ws, w ∈ gWG) : GoodIn (x :: gWG) ws := fun w hw => ⟨List.mem_cons_of_mem _ (h w hw), good_of_word (List.mem_filter.mp (h w hw)).2⟩
theorem gWG_good0 {ws : List Cond} (h : ∀ w ∈ ws, w ∈ gWG) : GoodIn gWG ws := fun w hw => ⟨h w hw, good_of_word (List.mem_filter.mp (h w hw)).2⟩
def gNok : Cond → Bool
  | .fieldLinkNest .. => true
  | .methodLinkNest .. => true
  | _ => false
def gN : List Cond := lw_tbl.filter gNok
theorem gN_in {w : Cond} (h : w ∈ lw_tbl) (hg : gNok w = true) : w ∈ gN := List.mem_filter.mpr ⟨h, hg⟩
theorem gN_moved {w : Cond} (h : w ∈ gN) {s U : State} (hW : s.WarmedH U.vm) (hZ : va_Nw w s) : va_Nw w U := by
  have h1 := (List.mem_filter.mp h).2
  cases w <;> first | exact va_Nw.warmF hW hZ | exact va_Nw.warmM hW hZ | (exact absurd h1 (by simp [gNok]))
theorem gN_same {w : Cond} (h : w ∈ gN) {u U : State} (hW : u.vm = U.vm) (hZ : va_Nw w u) : va_Nw w U := by
  have h1 := (List.mem_filter.mp h).2
  cases w <;> first | exact va_Nw.same rfl hW hZ | (exact absurd h1 (by simp [gNok]))
/-- what a method takes as given of the tables, beside the words -/
def gK (g : gG) (A : Nat → Prop) (U : State) : Prop := va_K g.1 gcl (gty g) U ∧ va_En R_Reply gRd ["HERE", "MOVED", "GONE"] [] g.2.2 A U U.heap ∧ (∀ w ∈ gN, va_Nw w U) ∧ va_AO R_Page U ∧ va_AO R_Host U
theorem gK_moved {g : gG} {A : Nat → Prop} {s U : State} {H : Heap} {locs : List Loc} (h : gK g A s) (hS : va_S A s.heap H locs) (hU : U.heap = H) (hW : s.WarmedH U.vm) : gK g A U := by
  obtain ⟨h1, h2, h3, h4, h5⟩ := h
  refine ⟨va_K.moved hW.alike h1, ?_, fun w hw => gN_moved hw hW (h3 w hw), va_AO.moved hW.alike h4, va_AO.moved hW.alike h5⟩
  rw [hU]
  exact va_En.moved hW.alike (h2.kept hS.2.1)
theorem gK_calling {g : gG} {A : Nat → Prop} {U : State} (h : gK g A U) (f : JFrame) (mk : MethodId) (a : Array Value) : gK g A (U.calling f mk a) := by
  obtain ⟨h1, h2, h3, h4, h5⟩ := h
  exact ⟨va_K.moved (u := U) (U := U.calling f mk a) (Vm.Alike.refl U.vm) h1, va_En.moved (u := U) (U := U.calling f mk a) (Vm.Alike.refl U.vm) h2, fun w hw => gN_same (u := U) (U := U.calling f mk a) hw rfl (h3 w hw), va_AO.moved (u := U) (U := U.calling f mk a) (Vm.Alike.refl U.vm) h4, va_AO.moved (u := U) (U := U.calling f mk a) (Vm.Alike.refl U.vm) h5⟩
abbrev gcx (g : gG) (A : Nat → Prop) (p : Program) (s : State) (m : MethodId) (args : Array Value) (c : Code) (cc : ByteArray) (nL : Nat) (own : String) : Prop := CallFix p m c cc nL s args gWG own ∧ gK g A s
def gPc (As : List Value) (g : gG) (A : Nat → Prop) (ad : Nat → Nat) (np : Nat) (u v : gS) : Array Value → State → Prop := va_Pc As (fun U => gW g A ad np u v U.heap ∧ gK g A U)
theorem gPc_blind {As : List Value} {g : gG} {A : Nat → Prop} {ad : Nat → Nat} {np : Nat} {u v : gS} : FrameBlind (gPc As g A ad np u v) := fun a U f mk h => ⟨h.1, h.2.1, gK_calling h.2.2 f mk a⟩
theorem gPc_at {As : List Value} {g : gG} {A : Nat → Prop} {ad : Nat → Nat} {np : Nat} {u v : gS} {s : State} {H : Heap} {locs : List Loc} (hK : gK g A s) (hW : gW g A ad np u v H) (hS : va_S A s.heap H locs) : ∀ U : State, U.heap = H → s.WarmedH U.vm → gPc As g A ad np u v As.toArray U := fun U hU hw => ⟨rfl, by rw [hU]; exact hW, gK_moved hK hS hU hw⟩
def CtI (l : Launch) (y : MethodName) (b : ByteArray) (nl : Nat) (rt : FieldType) (d : Nat) (As : List Value) (g : gG) (A : Nat → Prop) (ad : Nat → Nat) (np : Nat) (u v : gS) (post : Int32 → gS × gS → Prop) : Prop := Met l y (.code y b nl (some rt) :: gWG) (rmD d 0 0) (gPc As g A ad np u v) (va_Qi post (fun t U => gW g A ad np t.1 t.2 U.heap) A) 0 0 A
def CtL (l : Launch) (y : MethodName) (b : ByteArray) (nl : Nat) (d : Nat) (As : List Value) (g : gG) (A : Nat → Prop) (ad : Nat → Nat) (np : Nat) (u v : gS) (post : Int64 → gS × gS → Prop) : Prop := Met l y (.code y b nl (some .long) :: gWG) (rmD d 0 0) (gPc As g A ad np u v) (va_Ql post (fun t U => gW g A ad np t.1 t.2 U.heap) A) 0 0 A
def CtV (l : Launch) (y : MethodName) (b : ByteArray) (nl : Nat) (d : Nat) (As : List Value) (g : gG) (A : Nat → Prop) (ad : Nat → Nat) (np : Nat) (u v : gS) (post : gS × gS → Prop) : Prop := Met l y (.code y b nl none :: gWG) (rmD d 0 0) (gPc As g A ad np u v) (va_Qv post (fun t U => gW g A ad np t.1 t.2 U.heap) A) 0 0 A
def BdI (l : Launch) (b : ByteArray) (nl : Nat) (own : String) (d : Nat) (As : List Value) (g : gG) (A : Nat → Prop) (ad : Nat → Nat) (np : Nat) (u v : gS) (post : Int32 → gS × gS → Prop) : Prop :=
  ∀ (p : Program) (e : Env) (R : Room) (s : State) (m : MethodId) (args : Array Value) (below : List Frame) (meth : Method) (c : Code) (Q : State → Prop) (ls : Array Slot), gcx g A p s m args c b nl own → gW g A ad np u v s.heap → va_S A s.heap s.heap [] → d ≤ R.frames ∧ 40 * d ≤ R.locals → lv_has ls nl (lv_args 0 As) →
    (∀ (r : Int32) (t : gS × gS) (H : Heap) (locs : List Loc) (pc : Nat) (ls : Array Slot), post r t → gW g A ad np t.1 t.2 H → va_S A s.heap H locs → decode b pc = .ok (.ireturn, 1) → W p l e R s m args below meth c H locs 0 0 Q (F0 m pc ls [.int r])) → W p l e R s m args below meth c s.heap [] 0 0 Q (F0 m 0 ls [])
def BdL (l : Launch) (b : ByteArray) (nl : Nat) (own : String) (d : Nat) (As : List Value) (g : gG) (A : Nat → Prop) (ad : Nat → Nat) (np : Nat) (u v : gS) (post : Int64 → gS × gS → Prop) : Prop :=
  ∀ (p : Program) (e : Env) (R : Room) (s : State) (m : MethodId) (args : Array Value) (below : List Frame) (meth : Method) (c : Code) (Q : State → Prop) (ls : Array Slot), gcx g A p s m args c b nl own → gW g A ad np u v s.heap → va_S A s.heap s.heap [] → d ≤ R.frames ∧ 40 * d ≤ R.locals → lv_has ls nl (lv_args 0 As) →
    (∀ (r : Int64) (t : gS × gS) (H : Heap) (locs : List Loc) (pc : Nat) (ls : Array Slot), post r t → gW g A ad np t.1 t.2 H → va_S A s.heap H locs → decode b pc = .ok (.lreturn, 1) → W p l e R s m args below meth c H locs 0 0 Q (F0 m pc ls [.long r])) → W p l e R s m args below meth c s.heap [] 0 0 Q (F0 m 0 ls [])
def BdV (l : Launch) (b : ByteArray) (nl : Nat) (own : String) (d : Nat) (As : List Value) (g : gG) (A : Nat → Prop) (ad : Nat → Nat) (np : Nat) (u v : gS) (post : gS × gS → Prop) : Prop :=
  ∀ (p : Program) (e : Env) (R : Room) (s : State) (m : MethodId) (args : Array Value) (below : List Frame) (meth : Method) (c : Code) (Q : State → Prop) (ls : Array Slot), gcx g A p s m args c b nl own → gW g A ad np u v s.heap → va_S A s.heap s.heap [] → d ≤ R.frames ∧ 40 * d ≤ R.locals → lv_has ls nl (lv_args 0 As) →
    (∀ (t : gS × gS) (H : Heap) (locs : List Loc) (pc : Nat) (ls : Array Slot), post t → gW g A ad np t.1 t.2 H → va_S A s.heap H locs → decode b pc = .ok (.return_, 1) → W p l e R s m args below meth c H locs 0 0 Q (F0 m pc ls [])) → W p l e R s m args below meth c s.heap [] 0 0 Q (F0 m 0 ls [])
section GMK
variable {l : Launch} {y : MethodName} {b : ByteArray} {nl d : Nat} {rt : FieldType} {As : List Value} {g : gG} {A : Nat → Prop} {ad : Nat → Nat} {np : Nat} {u v : gS} {own : String}
theorem mkI {post : Int32 → gS × gS → Prop} (hy : plainName y.cls = true) (ho : y.cls = own) (hlen : (lg_sl As).length ≤ nl) (hnar : ∀ r t, post r t → narrow rt (.int r) = .int r) (h : BdI l b nl own d As g A ad np u v post) : CtI l y b nl rt d As g A ad np u v post := by
  refine Met.ofW (cc := b) (maxL := nl) (ret := some rt) hy rfl ?_
  intro p e s m args below meth c s₁ B hml hv
  obtain ⟨rfl, hW, hK⟩ := hv
  subst ho
  have hts := atoms_spec (ws := .code y b nl (some rt) :: gWG) B.pre
  have hl := lv_entry As (n := nl) hlen
  rw [lg_entry_eq]
  generalize (lg_sl As ++ List.replicate (nl - (lg_sl As).length) Slot.unset).toArray = ls at hl ⊢
  have hlocks := B.notSynchronized
  exact h p e _ s m _ below meth c _ ls ⟨⟨B.exec, B.bytes, hml, findClass_of_methodNamed B.named, fun w hw => hts w (List.mem_cons_of_mem _ hw)⟩, hK⟩ hW va_S.rf ⟨Nat.le_refl _, Nat.le_refl _⟩ hl (fun r t H locs pc ls hp hW1 hS1 hd => W.zret B.exec B.bytes B.returns (hnar r t hp) (fun t' ht _ => ⟨⟨r, t, rfl, hp, by show gW _ _ _ _ _ _ _; rw [ht]; exact hW1⟩, hS1.F ht⟩) hS1.2.2 hd hlocks)
theorem mkL {post : Int64 → gS × gS → Prop} (hy : plainName y.cls = true) (ho : y.cls = own) (hlen : (lg_sl As).length ≤ nl) (h : BdL l b nl own d As g A ad np u v post) : CtL l y b nl d As g A ad np u v post := by
  refine Met.ofW (cc := b) (maxL := nl) (ret := some .long) hy rfl ?_
  intro p e s m args below meth c s₁ B hml hv
  obtain ⟨rfl, hW, hK⟩ := hv
  subst ho
  have hts := atoms_spec (ws := .code y b nl (some .long) :: gWG) B.pre
  have hl := lv_entry As (n := nl) hlen
  rw [lg_entry_eq]
  generalize (lg_sl As ++ List.replicate (nl - (lg_sl As).length) Slot.unset).toArray = ls at hl ⊢
  have hlocks := B.notSynchronized
  exact h p e _ s m _ below meth c _ ls ⟨⟨B.exec, B.bytes, hml, findClass_of_methodNamed B.named, fun w hw => hts w (List.mem_cons_of_mem _ hw)⟩, hK⟩ hW va_S.rf ⟨Nat.le_refl _, Nat.le_refl _⟩ hl (fun r t H locs pc ls hp hW1 hS1 hd => W.lret B.exec B.bytes B.returns (fun t' ht _ => ⟨⟨r, t, rfl, hp, by show gW _ _ _ _ _ _ _; rw [ht]; exact hW1⟩, hS1.F ht⟩) hS1.2.2 hd hlocks)
theorem mkV {post : gS × gS → Prop} (hy : plainName y.cls = true) (ho : y.cls = own) (hlen : (lg_sl As).length ≤ nl) (h : BdV l b nl own d As g A ad np u v post) : CtV l y b nl d As g A ad np u v post := by
  refine Met.ofW (cc := b) (maxL := nl) (ret := none) hy rfl ?_
  intro p e s m args below meth c s₁ B hml hv
  obtain ⟨rfl, hW, hK⟩ := hv
  subst ho
  have hts := atoms_spec (ws := .code y b nl none :: gWG) B.pre
  have hl := lv_entry As (n := nl) hlen
  rw [lg_entry_eq]
  generalize (lg_sl As ++ List.replicate (nl - (lg_sl As).length) Slot.unset).toArray = ls at hl ⊢
  have hlocks := B.notSynchronized
  exact h p e _ s m _ below meth c _ ls ⟨⟨B.exec, B.bytes, hml, findClass_of_methodNamed B.named, fun w hw => hts w (List.mem_cons_of_mem _ hw)⟩, hK⟩ hW va_S.rf ⟨Nat.le_refl _, Nat.le_refl _⟩ hl (fun t H locs pc ls hp hW1 hS1 hd => W.vret B.exec B.bytes B.returns (fun t' ht _ => ⟨⟨t, rfl, hp, by show gW _ _ _ _ _ _ _; rw [ht]; exact hW1⟩, hS1.F ht⟩) hS1.2.2 hd hlocks)
end GMK
/-- the words of a call: an instance method; a static one; a private static one of a nest mate -/
def gwD (y : MethodName) (n : Nat) : Prop := y.cls ≠ "java/lang/invoke/MethodHandle" ∧ y.cls ≠ "java/lang/invoke/VarHandle" ∧ (parseMethodDescriptor y.desc).map (fun d => d.parameters.length) = some n
def gwV (own : String) (index : Nat) (y : MethodName) (b : ByteArray) (nl : Nat) (ret : Option FieldType) (n : Nat) : Prop := Cond.methodLink own index y ∈ gWG ∧ Cond.instanceMethod y ∈ gWG ∧ Cond.selects y.cls y y ∈ gWG ∧ Cond.initialized y.cls ∈ gWG ∧ Cond.code y b nl ret ∈ gWG ∧ gwD y n
def gwS (own : String) (index : Nat) (y : MethodName) (b : ByteArray) (nl : Nat) (ret : Option FieldType) (n : Nat) : Prop := Cond.methodLink own index y ∈ gWG ∧ Cond.static y ∈ gWG ∧ Cond.initialized y.cls ∈ gWG ∧ Cond.code y b nl ret ∈ gWG ∧ gwD y n
def gwSN (own : String) (index : Nat) (y : MethodName) (host : String) (b : ByteArray) (nl : Nat) (ret : Option FieldType) (n : Nat) : Prop := Cond.methodLinkNest own index y host ∈ gN ∧ Cond.static y ∈ gWG ∧ Cond.initialized y.cls ∈ gWG ∧ Cond.code y b nl ret ∈ gWG ∧ gwD y n
theorem gWG_cons {x : Cond} (hx : x ∈ gWG) : GoodIn gWG (x :: gWG) := gWG_good0 (fun w hw => by rcases List.mem_cons.mp hw with rfl | h; exact hx; exact h)
section GCL
variable {p : Program} {l : Launch} {e : Env} {R : Room} {s : State} {m : MethodId} {args : Array Value} {below : List Frame} {meth : Method} {c : Code} {H : Heap} {locs : List Loc} {cells slots : Nat} {Q : State → Prop}
variable {cc : ByteArray} {pc nL : Nat} {ls : Array Slot} {rest st0 : List Value} {g : gG} {A : Nat → Prop} {ad : Nat → Nat} {np : Nat} {u v : gS} {own host : String} {index n maxL d : Nat} {y : MethodName} {bytes : ByteArray} {rt : FieldType} {b : Nat} {As : List Value}
theorem gcwV {ret : Option FieldType} (X : gcx g A p s m args c cc nL own) (hw : gwV own index y bytes maxL ret n) (hR : d + 1 ≤ R.frames ∧ 8 + (maxL + 11) + 40 * d ≤ R.locals) : CallW R s args own y.cls index y bytes maxL ret (.code y bytes maxL ret :: gWG) (rmD d 0 0) 0 0 n := by
  obtain ⟨⟨-, -, -, -, hts⟩, -⟩ := X
  obtain ⟨h1, h2, h3, h4, h5, h6⟩ := hw
  exact ⟨callB_of n hts (gWG_cons h5) rfl rfl rfl (hts _ h4) (hts _ h1) h6 hR, hts _ h2, hts _ h3⟩
theorem gcwS {ret : Option FieldType} (X : gcx g A p s m args c cc nL own) (hw : gwS own index y bytes maxL ret n) (hR : d + 1 ≤ R.frames ∧ 8 + (maxL + 11) + 40 * d ≤ R.locals) : CallB R s args own index y bytes maxL ret (.code y bytes maxL ret :: gWG) (rmD d 0 0) 0 0 n ∧ (Cond.static y).before args s = true := by
  obtain ⟨⟨-, -, -, -, hts⟩, -⟩ := X
  obtain ⟨h1, h2, h4, h5, h6⟩ := hw
  exact ⟨callB_of n hts (gWG_cons h5) rfl rfl rfl (hts _ h4) (hts _ h1) h6 hR, hts _ h2⟩
theorem gc_iV {post : Int32 → gS × gS → Prop} (X : gcx g A p s m args c cc nL own) (hw : gwV own index y bytes maxL (some rt) n) (hM : CtI l y bytes maxL rt d (.ref b :: As) g A ad np u v post) (hW : gW g A ad np u v H) (hS : va_S A s.heap H locs) (hv : ∃ cell : Cell, H[b]? = some cell ∧ cell.vm.isStatics = false ∧ s.vm.findClass y.cls = some cell.cls) (hR : d + 1 ≤ R.frames ∧ 8 + (maxL + 11) + 40 * d ≤ R.locals) (hn : As.length = n) (hls : ls.size = nL) (hst : st0 = As.reverse ++ .ref b :: rest) (hcat : (rest.map fun v => v.category).sum ≤ 8) (hdg : decode cc pc = .ok (.invokevirtual index, 3)) (hcr : cells + 0 ≤ R.cells ∧ slots + 0 ≤ R.slots)
    (kk : ∀ (r : Int32) (t : gS × gS) (H1 : Heap) (locs1 : List Loc), post r t → gW g A ad np t.1 t.2 H1 → va_S A s.heap H1 locs1 → W p l e R s m args below meth c H1 locs1 cells slots Q (F0 m (pc + 3) ls (.int r :: rest))) : W p l e R s m args below meth c H locs cells slots Q (F0 m pc ls st0) := by
  subst hst
  exact va_calli (va_runV X.1 hM (gcwV X hw hR) ⟨gPc_blind, hv, gPc_at X.2 hW hS⟩ rfl hn hls rfl (lv_room hcat) hdg hcr) hS (fun _ _ h => h) (fun _ h => h) (fun r t t' H1 locs1 ht _ hp hB _ _ hS1 => kk r t H1 locs1 hp (by rw [← ht]; exact hB) hS1)
theorem gc_lV {post : Int64 → gS × gS → Prop} (X : gcx g A p s m args c cc nL own) (hw : gwV own index y bytes maxL (some .long) n) (hM : CtL l y bytes maxL d (.ref b :: As) g A ad np u v post) (hW : gW g A ad np u v H) (hS : va_S A s.heap H locs) (hv : ∃ cell : Cell, H[b]? = some cell ∧ cell.vm.isStatics = false ∧ s.vm.findClass y.cls = some cell.cls) (hR : d + 1 ≤ R.frames ∧ 8 + (maxL + 11) + 40 * d ≤ R.locals) (hn : As.length = n) (hls : ls.size = nL) (hst : st0 = As.reverse ++ .ref b :: rest) (hcat : (rest.map fun v => v.category).sum ≤ 8) (hdg : decode cc pc = .ok (.invokevirtual index, 3)) (hcr : cells + 0 ≤ R.cells ∧ slots + 0 ≤ R.slots)
    (kk : ∀ (r : Int64) (t : gS × gS) (H1 : Heap) (locs1 : List Loc), post r t → gW g A ad np t.1 t.2 H1 → va_S A s.heap H1 locs1 → W p l e R s m args below meth c H1 locs1 cells slots Q (F0 m (pc + 3) ls (.long r :: rest))) : W p l e R s m args below meth c H locs cells slots Q (F0 m pc ls st0) := by
  subst hst
  exact va_calll (va_runV X.1 hM (gcwV X hw hR) ⟨gPc_blind, hv, gPc_at X.2 hW hS⟩ rfl hn hls rfl (lv_room hcat) hdg hcr) hS (fun _ _ h => h) (fun _ h => h) (fun r t t' H1 locs1 ht _ hp hB _ _ hS1 => kk r t H1 locs1 hp (by rw [← ht]; exact hB) hS1)
theorem gc_vV {post : gS × gS → Prop} (X : gcx g A p s m args c cc nL own) (hw : gwV own index y bytes maxL none n) (hM : CtV l y bytes maxL d (.ref b :: As) g A ad np u v post) (hW : gW g A ad np u v H) (hS : va_S A s.heap H locs) (hv : ∃ cell : Cell, H[b]? = some cell ∧ cell.vm.isStatics = false ∧ s.vm.findClass y.cls = some cell.cls) (hR : d + 1 ≤ R.frames ∧ 8 + (maxL + 11) + 40 * d ≤ R.locals) (hn : As.length = n) (hls : ls.size = nL) (hst : st0 = As.reverse ++ .ref b :: rest) (hcat : (rest.map fun v => v.category).sum ≤ 8) (hdg : decode cc pc = .ok (.invokevirtual index, 3)) (hcr : cells + 0 ≤ R.cells ∧ slots + 0 ≤ R.slots)
    (kk : ∀ (t : gS × gS) (H1 : Heap) (locs1 : List Loc), post t → gW g A ad np t.1 t.2 H1 → va_S A s.heap H1 locs1 → W p l e R s m args below meth c H1 locs1 cells slots Q (F0 m (pc + 3) ls rest)) : W p l e R s m args below meth c H locs cells slots Q (F0 m pc ls st0) := by
  subst hst
  exact va_callv (va_runV X.1 hM (gcwV X hw hR) ⟨gPc_blind, hv, gPc_at X.2 hW hS⟩ rfl hn hls rfl (lv_room hcat) hdg hcr) hS (fun _ _ h => h) (fun _ h => h) (fun t t' H1 locs1 ht _ hp hB _ _ hS1 => kk t H1 locs1 hp (by rw [← ht]; exact hB) hS1)
theorem gc_iS {post : Int32 → gS × gS → Prop} (X : gcx g A p s m args c cc nL own) (hw : gwS own index y bytes maxL (some rt) n) (hM : CtI l y bytes maxL rt d As g A ad np u v post) (hW : gW g A ad np u v H) (hS : va_S A s.heap H locs) (hR : d + 1 ≤ R.frames ∧ 8 + (maxL + 11) + 40 * d ≤ R.locals) (hn : As.length = n) (hls : ls.size = nL) (hst : st0 = As.reverse ++ rest) (hcat : (rest.map fun v => v.category).sum ≤ 8) (hdg : decode cc pc = .ok (.invokestatic index, 3)) (hcr : cells + 0 ≤ R.cells ∧ slots + 0 ≤ R.slots)
    (kk : ∀ (r : Int32) (t : gS × gS) (H1 : Heap) (locs1 : List Loc), post r t → gW g A ad np t.1 t.2 H1 → va_S A s.heap H1 locs1 → W p l e R s m args below meth c H1 locs1 cells slots Q (F0 m (pc + 3) ls (.int r :: rest))) : W p l e R s m args below meth c H locs cells slots Q (F0 m pc ls st0) := by
  subst hst
  exact va_calli (va_runS X.1 hM (gcwS X hw hR) ⟨gPc_blind, gPc_at X.2 hW hS⟩ rfl hn hls rfl (lv_room hcat) hdg hcr) hS (fun _ _ h => h) (fun _ h => h) (fun r t t' H1 locs1 ht _ hp hB _ _ hS1 => kk r t H1 locs1 hp (by rw [← ht]; exact hB) hS1)
theorem gc_iSN {post : Int32 → gS × gS → Prop} (X : gcx g A p s m args c cc nL own) (hw : gwSN own index y host bytes maxL (some rt) n) (hM : CtI l y bytes maxL rt d As g A ad np u v post) (hW : gW g A ad np u v H) (hS : va_S A s.heap H locs) (hR : d + 1 ≤ R.frames ∧ 8 + (maxL + 11) + 40 * d ≤ R.locals) (hn : As.length = n) (hls : ls.size = nL) (hst : st0 = As.reverse ++ rest) (hcat : (rest.map fun v => v.category).sum ≤ 8) (hdg : decode cc pc = .ok (.invokestatic index, 3)) (hcr : cells + 0 ≤ R.cells ∧ slots + 0 ≤ R.slots)
    (kk : ∀ (r : Int32) (t : gS × gS) (H1 : Heap) (locs1 : List Loc), post r t → gW g A ad np t.1 t.2 H1 → va_S A s.heap H1 locs1 → W p l e R s m args below meth c H1 locs1 cells slots Q (F0 m (pc + 3) ls (.int r :: rest))) : W p l e R s m args below meth c H locs cells slots Q (F0 m pc ls st0) := by
  subst hst
  have hts := X.1.2.2.2.2
  obtain ⟨h1, h2, h4, h5, h6⟩ := hw
  exact va_calli (va_runSN X.1 hM ⟨va_cnB n hts (gWG_cons h5) rfl rfl rfl (X.2.2.2.1 _ h1) (hts _ h4) h6 hR, hts _ h2, trivial⟩ ⟨gPc_blind, gPc_at X.2 hW hS⟩ rfl hn hls rfl (lv_room hcat) hdg hcr) hS (fun _ _ h => h) (fun _ h => h) (fun r t t' H1 locs1 ht _ hp hB _ _ hS1 => kk r t H1 locs1 hp (by rw [← ht]; exact hB) hS1)
end GCL
end
section
/-! Links: a row for each place of a class file that an instruction names. -/
section GLK
variable {p : Program} {l : Launch} {e : Env} {R : Room} {s : State} {m : MethodId} {args : Array Value} {below : List Frame} {meth : Method} {c : Code} {H : Heap} {locs : List Loc} {cells slots : Nat} {Q : State → Prop} {cc : ByteArray} {pc nL : Nat} {ls : Array Slot} {rest : List Value} {g : gG} {A : Nat → Prop} {ad : Nat → Nat} {np : Nat} {u v : gS}
theorem uin_PG : ∀ w ∈ u_ws R_PG F_PG 4, w ∈ gWG := by
  intro w hw
  obtain ⟨k, hk, rfl⟩ := List.mem_map.mp hw
  have hk := List.mem_range.mp hk
  match k, hk with
  | 0, _ => exact gWG_in (List.mem_append_right _ q188) rfl
  | 1, _ => exact gWG_in (List.mem_append_right _ q190) rfl
  | 2, _ => exact gWG_in (List.mem_append_right _ q192) rfl
  | 3, _ => exact gWG_in (List.mem_append_right _ q194) rfl
  | n + 4, h => exact absurd h (by omega)
theorem uin_Web : ∀ w ∈ u_ws R_Web F_Web 4, w ∈ gWG := by
  intro w hw
  obtain ⟨k, hk, rfl⟩ := List.mem_map.mp hw
  have hk := List.mem_range.mp hk
  match k, hk with
  | 0, _ => exact gWG_in (List.mem_append_right _ q74) rfl
  | 1, _ => exact gWG_in (List.mem_append_right _ q76) rfl
  | 2, _ => exact gWG_in (List.mem_append_right _ q78) rfl
  | 3, _ => exact gWG_in (List.mem_append_right _ q80) rfl
  | n + 4, h => exact absurd h (by omega)
theorem uin_Host : ∀ w ∈ u_ws R_Host F_Host 3, w ∈ gWG := by
  intro w hw
  obtain ⟨k, hk, rfl⟩ := List.mem_map.mp hw
  have hk := List.mem_range.mp hk
  match k, hk with
  | 0, _ => exact gWG_in (List.mem_append_right _ q38) rfl
  | 1, _ => exact gWG_in (List.mem_append_right _ q40) rfl
  | 2, _ => exact gWG_in (List.mem_append_right _ q42) rfl
  | n + 3, h => exact absurd h (by omega)
theorem uin_Row : ∀ w ∈ u_ws R_Row F_Row 2, w ∈ gWG := by
  intro w hw
  obtain ⟨k, hk, rfl⟩ := List.mem_map.mp hw
  have hk := List.mem_range.mp hk
  match k, hk with
  | 0, _ => exact gWG_in (List.mem_append_right _ q59) rfl
  | 1, _ => exact gWG_in (List.mem_append_right _ q61) rfl
  | n + 2, h => exact absurd h (by omega)
theorem uin_Page : ∀ w ∈ u_ws R_Page F_Page 6, w ∈ gWG := by
  intro w hw
  obtain ⟨k, hk, rfl⟩ := List.mem_map.mp hw
  have hk := List.mem_range.mp hk
  match k, hk with
  | 0, _ => exact gWG_in (List.mem_append_right _ q244) rfl
  | 1, _ => exact gWG_in (List.mem_append_right _ q246) rfl
  | 2, _ => exact gWG_in (List.mem_append_right _ q248) rfl
  | 3, _ => exact gWG_in (List.mem_append_right _ q250) rfl
  | 4, _ => exact gWG_in (List.mem_append_right _ q252) rfl
  | 5, _ => exact gWG_in (List.mem_append_right _ q254) rfl
  | n + 6, h => exact absurd h (by omega)
theorem uin_Gat : ∀ w ∈ u_ws R_Gat F_Gat 17, w ∈ gWG := by
  intro w hw
  obtain ⟨k, hk, rfl⟩ := List.mem_map.mp hw
  have hk := List.mem_range.mp hk
  match k, hk with
  | 0, _ => exact gWG_in (List.mem_append_right _ q112) rfl
  | 1, _ => exact gWG_in (List.mem_append_right _ q114) rfl
  | 2, _ => exact gWG_in (List.mem_append_right _ q116) rfl
  | 3, _ => exact gWG_in (List.mem_append_right _ q118) rfl
  | 4, _ => exact gWG_in (List.mem_append_right _ q120) rfl
  | 5, _ => exact gWG_in (List.mem_append_right _ q122) rfl
  | 6, _ => exact gWG_in (List.mem_append_right _ q124) rfl
  | 7, _ => exact gWG_in (List.mem_append_right _ q126) rfl
  | 8, _ => exact gWG_in (List.mem_append_right _ q128) rfl
  | 9, _ => exact gWG_in (List.mem_append_right _ q130) rfl
  | 10, _ => exact gWG_in (List.mem_append_right _ q132) rfl
  | 11, _ => exact gWG_in (List.mem_append_right _ q134) rfl
  | 12, _ => exact gWG_in (List.mem_append_right _ q136) rfl
  | 13, _ => exact gWG_in (List.mem_append_right _ q138) rfl
  | 14, _ => exact gWG_in (List.mem_append_right _ q140) rfl
  | 15, _ => exact gWG_in (List.mem_append_right _ q142) rfl
  | 16, _ => exact gWG_in (List.mem_append_right _ q144) rfl
  | n + 17, h => exact absurd h (by omega)
theorem uin_Rank : ∀ w ∈ u_ws R_Rank F_Rank 8, w ∈ gWG := by
  intro w hw
  obtain ⟨k, hk, rfl⟩ := List.mem_map.mp hw
  have hk := List.mem_range.mp hk
  match k, hk with
  | 0, _ => exact gWG_in (List.mem_append_right _ q166) rfl
  | 1, _ => exact gWG_in (List.mem_append_right _ q168) rfl
  | 2, _ => exact gWG_in (List.mem_append_right _ q170) rfl
  | 3, _ => exact gWG_in (List.mem_append_right _ q172) rfl
  | 4, _ => exact gWG_in (List.mem_append_right _ q174) rfl
  | 5, _ => exact gWG_in (List.mem_append_right _ q176) rfl
  | 6, _ => exact gWG_in (List.mem_append_right _ q178) rfl
  | 7, _ => exact gWG_in (List.mem_append_right _ q180) rfl
  | n + 8, h => exact absurd h (by omega)
theorem uin_Mod : ∀ w ∈ u_ws R_Mod F_Mod 37, w ∈ gWG := by
  intro w hw
  obtain ⟨k, hk, rfl⟩ := List.mem_map.mp hw
  have hk := List.mem_range.mp hk
  match k, hk with
  | 0, _ => exact gWG_in (List.mem_append_right _ q537) rfl
  | 1, _ => exact gWG_in (List.mem_append_right _ q539) rfl
  | 2, _ => exact gWG_in (List.mem_append_right _ q541) rfl
  | 3, _ => exact gWG_in (List.mem_append_right _ q543) rfl
  | 4, _ => exact gWG_in (List.mem_append_right _ q545) rfl
  | 5, _ => exact gWG_in (List.mem_append_right _ q547) rfl
  | 6, _ => exact gWG_in (List.mem_append_right _ q549) rfl
  | 7, _ => exact gWG_in (List.mem_append_right _ q551) rfl
  | 8, _ => exact gWG_in (List.mem_append_right _ q553) rfl
  | 9, _ => exact gWG_in (List.mem_append_right _ q555) rfl
  | 10, _ => exact gWG_in (List.mem_append_right _ q557) rfl
  | 11, _ => exact gWG_in (List.mem_append_right _ q559) rfl
  | 12, _ => exact gWG_in (List.mem_append_right _ q561) rfl
  | 13, _ => exact gWG_in (List.mem_append_right _ q563) rfl
  | 14, _ => exact gWG_in (List.mem_append_right _ q565) rfl
  | 15, _ => exact gWG_in (List.mem_append_right _ q567) rfl
  | 16, _ => exact gWG_in (List.mem_append_right _ q569) rfl
  | 17, _ => exact gWG_in (List.mem_append_right _ q571) rfl
  | 18, _ => exact gWG_in (List.mem_append_right _ q573) rfl
  | 19, _ => exact gWG_in (List.mem_append_right _ q575) rfl
  | 20, _ => exact gWG_in (List.mem_append_right _ q577) rfl
  | 21, _ => exact gWG_in (List.mem_append_right _ q579) rfl
  | 22, _ => exact gWG_in (List.mem_append_right _ q581) rfl
  | 23, _ => exact gWG_in (List.mem_append_right _ q583) rfl
  | 24, _ => exact gWG_in (List.mem_append_right _ q585) rfl
  | 25, _ => exact gWG_in (List.mem_append_right _ q587) rfl
  | 26, _ => exact gWG_in (List.mem_append_right _ q589) rfl
  | 27, _ => exact gWG_in (List.mem_append_right _ q591) rfl
  | 28, _ => exact gWG_in (List.mem_append_right _ q593) rfl
  | 29, _ => exact gWG_in (List.mem_append_right _ q595) rfl
  | 30, _ => exact gWG_in (List.mem_append_right _ q597) rfl
  | 31, _ => exact gWG_in (List.mem_append_right _ q599) rfl
  | 32, _ => exact gWG_in (List.mem_append_right _ q601) rfl
  | 33, _ => exact gWG_in (List.mem_append_right _ q603) rfl
  | 34, _ => exact gWG_in (List.mem_append_right _ q605) rfl
  | 35, _ => exact gWG_in (List.mem_append_right _ q607) rfl
  | 36, _ => exact gWG_in (List.mem_append_right _ q609) rfl
  | n + 37, h => exact absurd h (by omega)
theorem gf_Host_9 (X : gcx g A p s m args c cc nL R_Host) (hW : gW g A ad np u v H) {k : Nat} (hk : k < 94 + 5 * np) (hkk : gk k = 2) (hdg : decode cc pc = .ok (.getfield 9, 3)) (kk : W p l e R s m args below meth c H locs cells slots Q (F0 m (pc + 3) ls (.ref (ad (k + 1)) :: rest))) : W p l e R s m args below meth c H locs cells slots Q (F0 m pc ls (.ref (ad k) :: rest)) := gy_gr (t := k + 1) (C := R_Host) (T := F_Host) (N := 3) (ci := 2) (fs := gf2 ad k) (own := R_Host) (ref := R_Host) (index := 9) (j := 0) X.1.1 X.1.2.1 X.1.2.2.2.2 uin_Host X.1.2.2.2.1 X.2.1 rfl (by decide) (X.1.2.2.2.2 _ (gWG_in (List.mem_append_right _ q35) rfl)) (fun _ h => h) (fun _ => rfl) hW hk (fun σ τ => ge_2 hkk σ τ) hdg kk
theorem gf_Host_15 (X : gcx g A p s m args c cc nL R_Host) (hW : gW g A ad np u v H) {k : Nat} (hk : k < 94 + 5 * np) (hkk : gk k = 2) (hdg : decode cc pc = .ok (.getfield 15, 3)) (kk : W p l e R s m args below meth c H locs cells slots Q (F0 m (pc + 3) ls (.ref (ad (k + 2)) :: rest))) : W p l e R s m args below meth c H locs cells slots Q (F0 m pc ls (.ref (ad k) :: rest)) := gy_gr (t := k + 2) (C := R_Host) (T := F_Host) (N := 3) (ci := 2) (fs := gf2 ad k) (own := R_Host) (ref := R_Host) (index := 15) (j := 1) X.1.1 X.1.2.1 X.1.2.2.2.2 uin_Host X.1.2.2.2.1 X.2.1 rfl (by decide) (X.1.2.2.2.2 _ (gWG_in (List.mem_append_right _ q36) rfl)) (fun _ h => h) (fun _ => rfl) hW hk (fun σ τ => ge_2 hkk σ τ) hdg kk
theorem gf_Host_19 {q : Nat × Nat × Nat} {z : Int32} (X : gcx g A p s m args c cc nL R_Host) (hW : gW g A ad np u v H) {k : Nat} (hk : k < 94 + 5 * np) (hkk : gk k = 2) (hq : gv np q) (hg : gi q = (k, 2)) (hz : gr u v q = z) (hdg : decode cc pc = .ok (.getfield 19, 3)) (kk : W p l e R s m args below meth c H locs cells slots Q (F0 m (pc + 3) ls (.int z :: rest))) : W p l e R s m args below meth c H locs cells slots Q (F0 m pc ls (.ref (ad k) :: rest)) := gy_gi (C := R_Host) (T := F_Host) (N := 3) (ci := 2) (fs := gf2 ad k) (own := R_Host) (ref := R_Host) (index := 19) (j := 2) X.1.1 X.1.2.1 X.1.2.2.2.2 uin_Host X.1.2.2.2.1 X.2.1 rfl (by decide) (X.1.2.2.2.2 _ (gWG_in (List.mem_append_right _ q37) rfl)) (fun _ h => h) (fun _ => rfl) hW hk (fun σ τ => ge_2 hkk σ τ) hq hg hz hdg kk
theorem pf_Host_19 {q : Nat × Nat × Nat} {z : Int32} (X : gcx g A p s m args c cc nL R_Host) (hW : gW g A ad np u v H) (hS : va_S A s.heap H locs) {k : Nat} (hk : k < 94 + 5 * np) (hkk : gk k = 2) (hq : gv np q) (hg : gi q = (k, 2)) (hn : narrow (.int) (.int z) = .int z) (hfit : fits (.int) (.int z) = true) (hdg : decode cc pc = .ok (.putfield 19, 3)) (kk : ∀ (H1 : Heap) (locs1 : List Loc), gW g A ad np (gx u v q z).1 (gx u v q z).2 H1 → va_S A s.heap H1 locs1 → W p l e R s m args below meth c H1 locs1 cells slots Q (F0 m (pc + 3) ls rest)) : W p l e R s m args below meth c H locs cells slots Q (F0 m pc ls (.int z :: .ref (ad k) :: rest)) := gy_pi (C := R_Host) (T := F_Host) (N := 3) (ci := 2) (fs := gf2 ad k) (own := R_Host) (ref := R_Host) (index := 19) (j := 2) (ty := .int) X.1.1 X.1.2.1 X.1.2.2.2.2 uin_Host t_Host t_Host_ok n_Host X.1.2.2.2.1 X.2.1 rfl (by decide) (X.1.2.2.2.2 _ (gWG_in (List.mem_append_right _ q37) rfl)) (fun _ h => h) rfl rfl (fun _ => (by show 2 < 3; decide)) (fun r x => rfl) hW hS hk (fun σ τ => ge_2 hkk σ τ) hq hg hn hfit hdg kk
theorem gf_Row_9 (X : gcx g A p s m args c cc nL R_Row) (hW : gW g A ad np u v H) {k : Nat} (hk : k < 94 + 5 * np) (hkk : gk k = 3) (hdg : decode cc pc = .ok (.getfield 9, 3)) (kk : W p l e R s m args below meth c H locs cells slots Q (F0 m (pc + 3) ls (.ref (ad (k + 1)) :: rest))) : W p l e R s m args below meth c H locs cells slots Q (F0 m pc ls (.ref (ad k) :: rest)) := gy_gr (t := k + 1) (C := R_Row) (T := F_Row) (N := 2) (ci := 3) (fs := gf3 ad k) (own := R_Row) (ref := R_Row) (index := 9) (j := 0) X.1.1 X.1.2.1 X.1.2.2.2.2 uin_Row X.1.2.2.2.1 X.2.1 rfl (by decide) (X.1.2.2.2.2 _ (gWG_in (List.mem_append_right _ q53) rfl)) (fun _ h => h) (fun _ => rfl) hW hk (fun σ τ => ge_3 hkk σ τ) hdg kk
theorem gf_Row_15 {q : Nat × Nat × Nat} {z : Int32} (X : gcx g A p s m args c cc nL R_Row) (hW : gW g A ad np u v H) {k : Nat} (hk : k < 94 + 5 * np) (hkk : gk k = 3) (hq : gv np q) (hg : gi q = (k, 1)) (hz : gr u v q = z) (hdg : decode cc pc = .ok (.getfield 15, 3)) (kk : W p l e R s m args below meth c H locs cells slots Q (F0 m (pc + 3) ls (.int z :: rest))) : W p l e R s m args below meth c H locs cells slots Q (F0 m pc ls (.ref (ad k) :: rest)) := gy_gi (C := R_Row) (T := F_Row) (N := 2) (ci := 3) (fs := gf3 ad k) (own := R_Row) (ref := R_Row) (index := 15) (j := 1) X.1.1 X.1.2.1 X.1.2.2.2.2 uin_Row X.1.2.2.2.1 X.2.1 rfl (by decide) (X.1.2.2.2.2 _ (gWG_in (List.mem_append_right _ q54) rfl)) (fun _ h => h) (fun _ => rfl) hW hk (fun σ τ => ge_3 hkk σ τ) hq hg hz hdg kk
theorem pf_Row_15 {q : Nat × Nat × Nat} {z : Int32} (X : gcx g A p s m args c cc nL R_Row) (hW : gW g A ad np u v H) (hS : va_S A s.heap H locs) {k : Nat} (hk : k < 94 + 5 * np) (hkk : gk k = 3) (hq : gv np q) (hg : gi q = (k, 1)) (hn : narrow (.int) (.int z) = .int z) (hfit : fits (.int) (.int z) = true) (hdg : decode cc pc = .ok (.putfield 15, 3)) (kk : ∀ (H1 : Heap) (locs1 : List Loc), gW g A ad np (gx u v q z).1 (gx u v q z).2 H1 → va_S A s.heap H1 locs1 → W p l e R s m args below meth c H1 locs1 cells slots Q (F0 m (pc + 3) ls rest)) : W p l e R s m args below meth c H locs cells slots Q (F0 m pc ls (.int z :: .ref (ad k) :: rest)) := gy_pi (C := R_Row) (T := F_Row) (N := 2) (ci := 3) (fs := gf3 ad k) (own := R_Row) (ref := R_Row) (index := 15) (j := 1) (ty := .int) X.1.1 X.1.2.1 X.1.2.2.2.2 uin_Row t_Row t_Row_ok n_Row X.1.2.2.2.1 X.2.1 rfl (by decide) (X.1.2.2.2.2 _ (gWG_in (List.mem_append_right _ q54) rfl)) (fun _ h => h) rfl rfl (fun _ => (by show 1 < 2; decide)) (fun r x => rfl) hW hS hk (fun σ τ => ge_3 hkk σ τ) hq hg hn hfit hdg kk
theorem gf_Rank_67 {q : Nat × Nat × Nat} {z : Int32} (X : gcx g A p s m args c cc nL R_Rank) (hW : gW g A ad np u v H) {k : Nat} (hk : k < 94 + 5 * np) (hkk : gk k = 3) (hq : gv np q) (hg : gi q = (k, 1)) (hz : gr u v q = z) (hdg : decode cc pc = .ok (.getfield 67, 3)) (kk : W p l e R s m args below meth c H locs cells slots Q (F0 m (pc + 3) ls (.int z :: rest))) : W p l e R s m args below meth c H locs cells slots Q (F0 m pc ls (.ref (ad k) :: rest)) := gy_giN (C := R_Row) (T := F_Row) (N := 2) (ci := 3) (fs := gf3 ad k) (own := R_Rank) (ref := R_Row) (index := 67) (j := 1) (host := "PoliteGatherer") X.1.1 X.1.2.1 X.1.2.2.2.2 uin_Row X.1.2.2.2.1 X.2.1 rfl (by decide) (va_Nw.use rfl (X.2.2.2.1 _ (gN_in (List.mem_append_right _ q55) rfl))) (fun _ h => h) (fun _ => rfl) hW hk (fun σ τ => ge_3 hkk σ τ) hq hg hz hdg kk
theorem gf_Gat_77 {q : Nat × Nat × Nat} {z : Int32} (X : gcx g A p s m args c cc nL R_Gat) (hW : gW g A ad np u v H) {k : Nat} (hk : k < 94 + 5 * np) (hkk : gk k = 3) (hq : gv np q) (hg : gi q = (k, 1)) (hz : gr u v q = z) (hdg : decode cc pc = .ok (.getfield 77, 3)) (kk : W p l e R s m args below meth c H locs cells slots Q (F0 m (pc + 3) ls (.int z :: rest))) : W p l e R s m args below meth c H locs cells slots Q (F0 m pc ls (.ref (ad k) :: rest)) := gy_giN (C := R_Row) (T := F_Row) (N := 2) (ci := 3) (fs := gf3 ad k) (own := R_Gat) (ref := R_Row) (index := 77) (j := 1) (host := "PoliteGatherer") X.1.1 X.1.2.1 X.1.2.2.2.2 uin_Row X.1.2.2.2.1 X.2.1 rfl (by decide) (va_Nw.use rfl (X.2.2.2.1 _ (gN_in (List.mem_append_right _ q56) rfl))) (fun _ h => h) (fun _ => rfl) hW hk (fun σ τ => ge_3 hkk σ τ) hq hg hz hdg kk
theorem gf_Page_42 {q : Nat × Nat × Nat} {z : Int32} (X : gcx g A p s m args c cc nL R_Page) (hW : gW g A ad np u v H) {k : Nat} (hk : k < 94 + 5 * np) (hkk : gk k = 3) (hq : gv np q) (hg : gi q = (k, 1)) (hz : gr u v q = z) (hdg : decode cc pc = .ok (.getfield 42, 3)) (kk : W p l e R s m args below meth c H locs cells slots Q (F0 m (pc + 3) ls (.int z :: rest))) : W p l e R s m args below meth c H locs cells slots Q (F0 m pc ls (.ref (ad k) :: rest)) := gy_giN (C := R_Row) (T := F_Row) (N := 2) (ci := 3) (fs := gf3 ad k) (own := R_Page) (ref := R_Row) (index := 42) (j := 1) (host := "PoliteGatherer") X.1.1 X.1.2.1 X.1.2.2.2.2 uin_Row X.1.2.2.2.1 X.2.1 rfl (by decide) (va_Nw.use rfl (X.2.2.2.1 _ (gN_in (List.mem_append_right _ q57) rfl))) (fun _ h => h) (fun _ => rfl) hW hk (fun σ τ => ge_3 hkk σ τ) hq hg hz hdg kk
theorem gf_PG_104 {q : Nat × Nat × Nat} {z : Int32} (X : gcx g A p s m args c cc nL R_PG) (hW : gW g A ad np u v H) {k : Nat} (hk : k < 94 + 5 * np) (hkk : gk k = 3) (hq : gv np q) (hg : gi q = (k, 1)) (hz : gr u v q = z) (hdg : decode cc pc = .ok (.getfield 104, 3)) (kk : W p l e R s m args below meth c H locs cells slots Q (F0 m (pc + 3) ls (.int z :: rest))) : W p l e R s m args below meth c H locs cells slots Q (F0 m pc ls (.ref (ad k) :: rest)) := gy_giN (C := R_Row) (T := F_Row) (N := 2) (ci := 3) (fs := gf3 ad k) (own := R_PG) (ref := R_Row) (index := 104) (j := 1) (host := "PoliteGatherer") X.1.1 X.1.2.1 X.1.2.2.2.2 uin_Row X.1.2.2.2.1 X.2.1 rfl (by decide) (va_Nw.use rfl (X.2.2.2.1 _ (gN_in (List.mem_append_right _ q58) rfl))) (fun _ h => h) (fun _ => rfl) hW hk (fun σ τ => ge_3 hkk σ τ) hq hg hz hdg kk
theorem gf_Web_11 (X : gcx g A p s m args c cc nL R_Web) (hW : gW g A ad np u v H) (hdg : decode cc pc = .ok (.getfield 11, 3)) (kk : W p l e R s m args below meth c H locs cells slots Q (F0 m (pc + 3) ls (.ref (ad (2)) :: rest))) : W p l e R s m args below meth c H locs cells slots Q (F0 m pc ls (.ref (ad 1) :: rest)) := gy_gr (t := 2) (C := R_Web) (T := F_Web) (N := 4) (ci := 1) (fs := gf1 ad) (own := R_Web) (ref := R_Web) (index := 11) (j := 0) X.1.1 X.1.2.1 X.1.2.2.2.2 uin_Web X.1.2.2.2.1 X.2.1 rfl (by decide) (X.1.2.2.2.2 _ (gWG_in (List.mem_append_right _ q64) rfl)) (fun _ h => h) (fun _ => rfl) hW (by omega) (fun σ τ => ge_1 rfl σ τ) hdg kk
theorem gf_Rank_56 (X : gcx g A p s m args c cc nL R_Rank) (hW : gW g A ad np u v H) (hdg : decode cc pc = .ok (.getfield 56, 3)) (kk : W p l e R s m args below meth c H locs cells slots Q (F0 m (pc + 3) ls (.ref (ad (2)) :: rest))) : W p l e R s m args below meth c H locs cells slots Q (F0 m pc ls (.ref (ad 1) :: rest)) := gy_grN (t := 2) (C := R_Web) (T := F_Web) (N := 4) (ci := 1) (fs := gf1 ad) (own := R_Rank) (ref := R_Web) (index := 56) (j := 0) (host := "PoliteGatherer") X.1.1 X.1.2.1 X.1.2.2.2.2 uin_Web X.1.2.2.2.1 X.2.1 rfl (by decide) (va_Nw.use rfl (X.2.2.2.1 _ (gN_in (List.mem_append_right _ q65) rfl))) (fun _ h => h) (fun _ => rfl) hW (by omega) (fun σ τ => ge_1 rfl σ τ) hdg kk
theorem gf_PG_50 (X : gcx g A p s m args c cc nL R_PG) (hW : gW g A ad np u v H) (hdg : decode cc pc = .ok (.getfield 50, 3)) (kk : W p l e R s m args below meth c H locs cells slots Q (F0 m (pc + 3) ls (.ref (ad (2)) :: rest))) : W p l e R s m args below meth c H locs cells slots Q (F0 m pc ls (.ref (ad 1) :: rest)) := gy_grN (t := 2) (C := R_Web) (T := F_Web) (N := 4) (ci := 1) (fs := gf1 ad) (own := R_PG) (ref := R_Web) (index := 50) (j := 0) (host := "PoliteGatherer") X.1.1 X.1.2.1 X.1.2.2.2.2 uin_Web X.1.2.2.2.1 X.2.1 rfl (by decide) (va_Nw.use rfl (X.2.2.2.1 _ (gN_in (List.mem_append_right _ q66) rfl))) (fun _ h => h) (fun _ => rfl) hW (by omega) (fun σ τ => ge_1 rfl σ τ) hdg kk
theorem gf_Gat_95 (X : gcx g A p s m args c cc nL R_Gat) (hW : gW g A ad np u v H) (hdg : decode cc pc = .ok (.getfield 95, 3)) (kk : W p l e R s m args below meth c H locs cells slots Q (F0 m (pc + 3) ls (.ref (ad (2)) :: rest))) : W p l e R s m args below meth c H locs cells slots Q (F0 m pc ls (.ref (ad 1) :: rest)) := gy_grN (t := 2) (C := R_Web) (T := F_Web) (N := 4) (ci := 1) (fs := gf1 ad) (own := R_Gat) (ref := R_Web) (index := 95) (j := 0) (host := "PoliteGatherer") X.1.1 X.1.2.1 X.1.2.2.2.2 uin_Web X.1.2.2.2.1 X.2.1 rfl (by decide) (va_Nw.use rfl (X.2.2.2.1 _ (gN_in (List.mem_append_right _ q67) rfl))) (fun _ h => h) (fun _ => rfl) hW (by omega) (fun σ τ => ge_1 rfl σ τ) hdg kk
theorem gf_Web_19 (X : gcx g A p s m args c cc nL R_Web) (hW : gW g A ad np u v H) (hdg : decode cc pc = .ok (.getfield 19, 3)) (kk : W p l e R s m args below meth c H locs cells slots Q (F0 m (pc + 3) ls (.ref (ad (3)) :: rest))) : W p l e R s m args below meth c H locs cells slots Q (F0 m pc ls (.ref (ad 1) :: rest)) := gy_gr (t := 3) (C := R_Web) (T := F_Web) (N := 4) (ci := 1) (fs := gf1 ad) (own := R_Web) (ref := R_Web) (index := 19) (j := 1) X.1.1 X.1.2.1 X.1.2.2.2.2 uin_Web X.1.2.2.2.1 X.2.1 rfl (by decide) (X.1.2.2.2.2 _ (gWG_in (List.mem_append_right _ q68) rfl)) (fun _ h => h) (fun _ => rfl) hW (by omega) (fun σ τ => ge_1 rfl σ τ) hdg kk
theorem gf_PG_91 (X : gcx g A p s m args c cc nL R_PG) (hW : gW g A ad np u v H) (hdg : decode cc pc = .ok (.getfield 91, 3)) (kk : W p l e R s m args below meth c H locs cells slots Q (F0 m (pc + 3) ls (.ref (ad (3)) :: rest))) : W p l e R s m args below meth c H locs cells slots Q (F0 m pc ls (.ref (ad 1) :: rest)) := gy_grN (t := 3) (C := R_Web) (T := F_Web) (N := 4) (ci := 1) (fs := gf1 ad) (own := R_PG) (ref := R_Web) (index := 91) (j := 1) (host := "PoliteGatherer") X.1.1 X.1.2.1 X.1.2.2.2.2 uin_Web X.1.2.2.2.1 X.2.1 rfl (by decide) (va_Nw.use rfl (X.2.2.2.1 _ (gN_in (List.mem_append_right _ q69) rfl))) (fun _ h => h) (fun _ => rfl) hW (by omega) (fun σ τ => ge_1 rfl σ τ) hdg kk
theorem gf_Gat_65 (X : gcx g A p s m args c cc nL R_Gat) (hW : gW g A ad np u v H) (hdg : decode cc pc = .ok (.getfield 65, 3)) (kk : W p l e R s m args below meth c H locs cells slots Q (F0 m (pc + 3) ls (.ref (ad (22)) :: rest))) : W p l e R s m args below meth c H locs cells slots Q (F0 m pc ls (.ref (ad 1) :: rest)) := gy_grN (t := 22) (C := R_Web) (T := F_Web) (N := 4) (ci := 1) (fs := gf1 ad) (own := R_Gat) (ref := R_Web) (index := 65) (j := 2) (host := "PoliteGatherer") X.1.1 X.1.2.1 X.1.2.2.2.2 uin_Web X.1.2.2.2.1 X.2.1 rfl (by decide) (va_Nw.use rfl (X.2.2.2.1 _ (gN_in (List.mem_append_right _ q71) rfl))) (fun _ h => h) (fun _ => rfl) hW (by omega) (fun σ τ => ge_1 rfl σ τ) hdg kk
theorem gf_PG_101 (X : gcx g A p s m args c cc nL R_PG) (hW : gW g A ad np u v H) (hdg : decode cc pc = .ok (.getfield 101, 3)) (kk : W p l e R s m args below meth c H locs cells slots Q (F0 m (pc + 3) ls (.ref (ad (22)) :: rest))) : W p l e R s m args below meth c H locs cells slots Q (F0 m pc ls (.ref (ad 1) :: rest)) := gy_grN (t := 22) (C := R_Web) (T := F_Web) (N := 4) (ci := 1) (fs := gf1 ad) (own := R_PG) (ref := R_Web) (index := 101) (j := 2) (host := "PoliteGatherer") X.1.1 X.1.2.1 X.1.2.2.2.2 uin_Web X.1.2.2.2.1 X.2.1 rfl (by decide) (va_Nw.use rfl (X.2.2.2.1 _ (gN_in (List.mem_append_right _ q72) rfl))) (fun _ h => h) (fun _ => rfl) hW (by omega) (fun σ τ => ge_1 rfl σ τ) hdg kk
theorem gf_Web_33 {q : Nat × Nat × Nat} {z : Int32} (X : gcx g A p s m args c cc nL R_Web) (hW : gW g A ad np u v H) (hq : gv np q) (hg : gi q = (1, 3)) (hz : gr u v q = z) (hdg : decode cc pc = .ok (.getfield 33, 3)) (kk : W p l e R s m args below meth c H locs cells slots Q (F0 m (pc + 3) ls (.int z :: rest))) : W p l e R s m args below meth c H locs cells slots Q (F0 m pc ls (.ref (ad 1) :: rest)) := gy_gi (C := R_Web) (T := F_Web) (N := 4) (ci := 1) (fs := gf1 ad) (own := R_Web) (ref := R_Web) (index := 33) (j := 3) X.1.1 X.1.2.1 X.1.2.2.2.2 uin_Web X.1.2.2.2.1 X.2.1 rfl (by decide) (X.1.2.2.2.2 _ (gWG_in (List.mem_append_right _ q73) rfl)) (fun _ h => h) (fun _ => rfl) hW (by omega) (fun σ τ => ge_1 rfl σ τ) hq hg hz hdg kk
theorem pf_Web_33 {q : Nat × Nat × Nat} {z : Int32} (X : gcx g A p s m args c cc nL R_Web) (hW : gW g A ad np u v H) (hS : va_S A s.heap H locs) (hq : gv np q) (hg : gi q = (1, 3)) (hn : narrow (.int) (.int z) = .int z) (hfit : fits (.int) (.int z) = true) (hdg : decode cc pc = .ok (.putfield 33, 3)) (kk : ∀ (H1 : Heap) (locs1 : List Loc), gW g A ad np (gx u v q z).1 (gx u v q z).2 H1 → va_S A s.heap H1 locs1 → W p l e R s m args below meth c H1 locs1 cells slots Q (F0 m (pc + 3) ls rest)) : W p l e R s m args below meth c H locs cells slots Q (F0 m pc ls (.int z :: .ref (ad 1) :: rest)) := gy_pi (C := R_Web) (T := F_Web) (N := 4) (ci := 1) (fs := gf1 ad) (own := R_Web) (ref := R_Web) (index := 33) (j := 3) (ty := .int) X.1.1 X.1.2.1 X.1.2.2.2.2 uin_Web t_Web t_Web_ok n_Web X.1.2.2.2.1 X.2.1 rfl (by decide) (X.1.2.2.2.2 _ (gWG_in (List.mem_append_right _ q73) rfl)) (fun _ h => h) rfl rfl (fun _ => (by show 3 < 4; decide)) (fun r x => rfl) hW hS (by omega) (fun σ τ => ge_1 rfl σ τ) hq hg hn hfit hdg kk
theorem gf_Gat_9 (X : gcx g A p s m args c cc nL R_Gat) (hW : gW g A ad np u v H) (hdg : decode cc pc = .ok (.getfield 9, 3)) (kk : W p l e R s m args below meth c H locs cells slots Q (F0 m (pc + 3) ls (.ref (ad (1)) :: rest))) : W p l e R s m args below meth c H locs cells slots Q (F0 m pc ls (.ref (ad 24) :: rest)) := gy_gr (t := 1) (C := R_Gat) (T := F_Gat) (N := 17) (ci := 5) (fs := gf5 ad) (own := R_Gat) (ref := R_Gat) (index := 9) (j := 0) X.1.1 X.1.2.1 X.1.2.2.2.2 uin_Gat X.1.2.2.2.1 X.2.1 rfl (by decide) (X.1.2.2.2.2 _ (gWG_in (List.mem_append_right _ q91) rfl)) (fun _ h => h) (fun _ => rfl) hW (by omega) (fun σ τ => ge_5 rfl σ τ) hdg kk
theorem gf_Gat_20 (X : gcx g A p s m args c cc nL R_Gat) (hW : gW g A ad np u v H) (hdg : decode cc pc = .ok (.getfield 20, 3)) (kk : W p l e R s m args below meth c H locs cells slots Q (F0 m (pc + 3) ls (.ref (ad (25)) :: rest))) : W p l e R s m args below meth c H locs cells slots Q (F0 m pc ls (.ref (ad 24) :: rest)) := gy_gr (t := 25) (C := R_Gat) (T := F_Gat) (N := 17) (ci := 5) (fs := gf5 ad) (own := R_Gat) (ref := R_Gat) (index := 20) (j := 1) X.1.1 X.1.2.1 X.1.2.2.2.2 uin_Gat X.1.2.2.2.1 X.2.1 rfl (by decide) (X.1.2.2.2.2 _ (gWG_in (List.mem_append_right _ q92) rfl)) (fun _ h => h) (fun _ => rfl) hW (by omega) (fun σ τ => ge_5 rfl σ τ) hdg kk
theorem gf_Gat_24 (X : gcx g A p s m args c cc nL R_Gat) (hW : gW g A ad np u v H) (hdg : decode cc pc = .ok (.getfield 24, 3)) (kk : W p l e R s m args below meth c H locs cells slots Q (F0 m (pc + 3) ls (.ref (ad (27)) :: rest))) : W p l e R s m args below meth c H locs cells slots Q (F0 m pc ls (.ref (ad 24) :: rest)) := gy_gr (t := 27) (C := R_Gat) (T := F_Gat) (N := 17) (ci := 5) (fs := gf5 ad) (own := R_Gat) (ref := R_Gat) (index := 24) (j := 2) X.1.1 X.1.2.1 X.1.2.2.2.2 uin_Gat X.1.2.2.2.1 X.2.1 rfl (by decide) (X.1.2.2.2.2 _ (gWG_in (List.mem_append_right _ q93) rfl)) (fun _ h => h) (fun _ => rfl) hW (by omega) (fun σ τ => ge_5 rfl σ τ) hdg kk
theorem gf_Gat_27 (X : gcx g A p s m args c cc nL R_Gat) (hW : gW g A ad np u v H) (hdg : decode cc pc = .ok (.getfield 27, 3)) (kk : W p l e R s m args below meth c H locs cells slots Q (F0 m (pc + 3) ls (.ref (ad (29)) :: rest))) : W p l e R s m args below meth c H locs cells slots Q (F0 m pc ls (.ref (ad 24) :: rest)) := gy_gr (t := 29) (C := R_Gat) (T := F_Gat) (N := 17) (ci := 5) (fs := gf5 ad) (own := R_Gat) (ref := R_Gat) (index := 27) (j := 3) X.1.1 X.1.2.1 X.1.2.2.2.2 uin_Gat X.1.2.2.2.1 X.2.1 rfl (by decide) (X.1.2.2.2.2 _ (gWG_in (List.mem_append_right _ q94) rfl)) (fun _ h => h) (fun _ => rfl) hW (by omega) (fun σ τ => ge_5 rfl σ τ) hdg kk
theorem gf_Gat_30 (X : gcx g A p s m args c cc nL R_Gat) (hW : gW g A ad np u v H) (hdg : decode cc pc = .ok (.getfield 30, 3)) (kk : W p l e R s m args below meth c H locs cells slots Q (F0 m (pc + 3) ls (.ref (ad (31)) :: rest))) : W p l e R s m args below meth c H locs cells slots Q (F0 m pc ls (.ref (ad 24) :: rest)) := gy_gr (t := 31) (C := R_Gat) (T := F_Gat) (N := 17) (ci := 5) (fs := gf5 ad) (own := R_Gat) (ref := R_Gat) (index := 30) (j := 4) X.1.1 X.1.2.1 X.1.2.2.2.2 uin_Gat X.1.2.2.2.1 X.2.1 rfl (by decide) (X.1.2.2.2.2 _ (gWG_in (List.mem_append_right _ q95) rfl)) (fun _ h => h) (fun _ => rfl) hW (by omega) (fun σ τ => ge_5 rfl σ τ) hdg kk
theorem gf_Rank_47 (X : gcx g A p s m args c cc nL R_Rank) (hW : gW g A ad np u v H) (hdg : decode cc pc = .ok (.getfield 47, 3)) (kk : W p l e R s m args below meth c H locs cells slots Q (F0 m (pc + 3) ls (.ref (ad (31)) :: rest))) : W p l e R s m args below meth c H locs cells slots Q (F0 m pc ls (.ref (ad 24) :: rest)) := gy_grN (t := 31) (C := R_Gat) (T := F_Gat) (N := 17) (ci := 5) (fs := gf5 ad) (own := R_Rank) (ref := R_Gat) (index := 47) (j := 4) (host := "PoliteGatherer") X.1.1 X.1.2.1 X.1.2.2.2.2 uin_Gat X.1.2.2.2.1 X.2.1 rfl (by decide) (va_Nw.use rfl (X.2.2.2.1 _ (gN_in (List.mem_append_right _ q96) rfl))) (fun _ h => h) (fun _ => rfl) hW (by omega) (fun σ τ => ge_5 rfl σ τ) hdg kk
theorem gf_PG_134 (X : gcx g A p s m args c cc nL R_PG) (hW : gW g A ad np u v H) (hdg : decode cc pc = .ok (.getfield 134, 3)) (kk : W p l e R s m args below meth c H locs cells slots Q (F0 m (pc + 3) ls (.ref (ad (31)) :: rest))) : W p l e R s m args below meth c H locs cells slots Q (F0 m pc ls (.ref (ad 24) :: rest)) := gy_grN (t := 31) (C := R_Gat) (T := F_Gat) (N := 17) (ci := 5) (fs := gf5 ad) (own := R_PG) (ref := R_Gat) (index := 134) (j := 4) (host := "PoliteGatherer") X.1.1 X.1.2.1 X.1.2.2.2.2 uin_Gat X.1.2.2.2.1 X.2.1 rfl (by decide) (va_Nw.use rfl (X.2.2.2.1 _ (gN_in (List.mem_append_right _ q97) rfl))) (fun _ h => h) (fun _ => rfl) hW (by omega) (fun σ τ => ge_5 rfl σ τ) hdg kk
theorem gf_Gat_33 (X : gcx g A p s m args c cc nL R_Gat) (hW : gW g A ad np u v H) (hdg : decode cc pc = .ok (.getfield 33, 3)) (kk : W p l e R s m args below meth c H locs cells slots Q (F0 m (pc + 3) ls (.ref (ad (33)) :: rest))) : W p l e R s m args below meth c H locs cells slots Q (F0 m pc ls (.ref (ad 24) :: rest)) := gy_gr (t := 33) (C := R_Gat) (T := F_Gat) (N := 17) (ci := 5) (fs := gf5 ad) (own := R_Gat) (ref := R_Gat) (index := 33) (j := 5) X.1.1 X.1.2.1 X.1.2.2.2.2 uin_Gat X.1.2.2.2.1 X.2.1 rfl (by decide) (X.1.2.2.2.2 _ (gWG_in (List.mem_append_right _ q98) rfl)) (fun _ h => h) (fun _ => rfl) hW (by omega) (fun σ τ => ge_5 rfl σ τ) hdg kk
theorem gf_Gat_37 {q : Nat × Nat × Nat} {z : Int32} (X : gcx g A p s m args c cc nL R_Gat) (hW : gW g A ad np u v H) (hq : gv np q) (hg : gi q = (24, 6)) (hz : gr u v q = z) (hdg : decode cc pc = .ok (.getfield 37, 3)) (kk : W p l e R s m args below meth c H locs cells slots Q (F0 m (pc + 3) ls (.int z :: rest))) : W p l e R s m args below meth c H locs cells slots Q (F0 m pc ls (.ref (ad 24) :: rest)) := gy_gi (C := R_Gat) (T := F_Gat) (N := 17) (ci := 5) (fs := gf5 ad) (own := R_Gat) (ref := R_Gat) (index := 37) (j := 6) X.1.1 X.1.2.1 X.1.2.2.2.2 uin_Gat X.1.2.2.2.1 X.2.1 rfl (by decide) (X.1.2.2.2.2 _ (gWG_in (List.mem_append_right _ q99) rfl)) (fun _ h => h) (fun _ => rfl) hW (by omega) (fun σ τ => ge_5 rfl σ τ) hq hg hz hdg kk
theorem pf_Gat_37 {q : Nat × Nat × Nat} {z : Int32} (X : gcx g A p s m args c cc nL R_Gat) (hW : gW g A ad np u v H) (hS : va_S A s.heap H locs) (hq : gv np q) (hg : gi q = (24, 6)) (hn : narrow (.int) (.int z) = .int z) (hfit : fits (.int) (.int z) = true) (hdg : decode cc pc = .ok (.putfield 37, 3)) (kk : ∀ (H1 : Heap) (locs1 : List Loc), gW g A ad np (gx u v q z).1 (gx u v q z).2 H1 → va_S A s.heap H1 locs1 → W p l e R s m args below meth c H1 locs1 cells slots Q (F0 m (pc + 3) ls rest)) : W p l e R s m args below meth c H locs cells slots Q (F0 m pc ls (.int z :: .ref (ad 24) :: rest)) := gy_pi (C := R_Gat) (T := F_Gat) (N := 17) (ci := 5) (fs := gf5 ad) (own := R_Gat) (ref := R_Gat) (index := 37) (j := 6) (ty := .int) X.1.1 X.1.2.1 X.1.2.2.2.2 uin_Gat t_Gat t_Gat_ok n_Gat X.1.2.2.2.1 X.2.1 rfl (by decide) (X.1.2.2.2.2 _ (gWG_in (List.mem_append_right _ q99) rfl)) (fun _ h => h) rfl rfl (fun _ => (by show 6 < 17; decide)) (fun r x => rfl) hW hS (by omega) (fun σ τ => ge_5 rfl σ τ) hq hg hn hfit hdg kk
theorem gf_Gat_41 {q : Nat × Nat × Nat} {z : Int32} (X : gcx g A p s m args c cc nL R_Gat) (hW : gW g A ad np u v H) (hq : gv np q) (hg : gi q = (24, 7)) (hz : gr u v q = z) (hdg : decode cc pc = .ok (.getfield 41, 3)) (kk : W p l e R s m args below meth c H locs cells slots Q (F0 m (pc + 3) ls (.int z :: rest))) : W p l e R s m args below meth c H locs cells slots Q (F0 m pc ls (.ref (ad 24) :: rest)) := gy_gi (C := R_Gat) (T := F_Gat) (N := 17) (ci := 5) (fs := gf5 ad) (own := R_Gat) (ref := R_Gat) (index := 41) (j := 7) X.1.1 X.1.2.1 X.1.2.2.2.2 uin_Gat X.1.2.2.2.1 X.2.1 rfl (by decide) (X.1.2.2.2.2 _ (gWG_in (List.mem_append_right _ q100) rfl)) (fun _ h => h) (fun _ => rfl) hW (by omega) (fun σ τ => ge_5 rfl σ τ) hq hg hz hdg kk
theorem pf_Gat_41 {q : Nat × Nat × Nat} {z : Int32} (X : gcx g A p s m args c cc nL R_Gat) (hW : gW g A ad np u v H) (hS : va_S A s.heap H locs) (hq : gv np q) (hg : gi q = (24, 7)) (hn : narrow (.int) (.int z) = .int z) (hfit : fits (.int) (.int z) = true) (hdg : decode cc pc = .ok (.putfield 41, 3)) (kk : ∀ (H1 : Heap) (locs1 : List Loc), gW g A ad np (gx u v q z).1 (gx u v q z).2 H1 → va_S A s.heap H1 locs1 → W p l e R s m args below meth c H1 locs1 cells slots Q (F0 m (pc + 3) ls rest)) : W p l e R s m args below meth c H locs cells slots Q (F0 m pc ls (.int z :: .ref (ad 24) :: rest)) := gy_pi (C := R_Gat) (T := F_Gat) (N := 17) (ci := 5) (fs := gf5 ad) (own := R_Gat) (ref := R_Gat) (index := 41) (j := 7) (ty := .int) X.1.1 X.1.2.1 X.1.2.2.2.2 uin_Gat t_Gat t_Gat_ok n_Gat X.1.2.2.2.1 X.2.1 rfl (by decide) (X.1.2.2.2.2 _ (gWG_in (List.mem_append_right _ q100) rfl)) (fun _ h => h) rfl rfl (fun _ => (by show 7 < 17; decide)) (fun r x => rfl) hW hS (by omega) (fun σ τ => ge_5 rfl σ τ) hq hg hn hfit hdg kk
theorem gf_Gat_44 {q : Nat × Nat × Nat} {z : Int32} (X : gcx g A p s m args c cc nL R_Gat) (hW : gW g A ad np u v H) (hq : gv np q) (hg : gi q = (24, 8)) (hz : gr u v q = z) (hdg : decode cc pc = .ok (.getfield 44, 3)) (kk : W p l e R s m args below meth c H locs cells slots Q (F0 m (pc + 3) ls (.int z :: rest))) : W p l e R s m args below meth c H locs cells slots Q (F0 m pc ls (.ref (ad 24) :: rest)) := gy_gi (C := R_Gat) (T := F_Gat) (N := 17) (ci := 5) (fs := gf5 ad) (own := R_Gat) (ref := R_Gat) (index := 44) (j := 8) X.1.1 X.1.2.1 X.1.2.2.2.2 uin_Gat X.1.2.2.2.1 X.2.1 rfl (by decide) (X.1.2.2.2.2 _ (gWG_in (List.mem_append_right _ q101) rfl)) (fun _ h => h) (fun _ => rfl) hW (by omega) (fun σ τ => ge_5 rfl σ τ) hq hg hz hdg kk
theorem pf_Gat_44 {q : Nat × Nat × Nat} {z : Int32} (X : gcx g A p s m args c cc nL R_Gat) (hW : gW g A ad np u v H) (hS : va_S A s.heap H locs) (hq : gv np q) (hg : gi q = (24, 8)) (hn : narrow (.int) (.int z) = .int z) (hfit : fits (.int) (.int z) = true) (hdg : decode cc pc = .ok (.putfield 44, 3)) (kk : ∀ (H1 : Heap) (locs1 : List Loc), gW g A ad np (gx u v q z).1 (gx u v q z).2 H1 → va_S A s.heap H1 locs1 → W p l e R s m args below meth c H1 locs1 cells slots Q (F0 m (pc + 3) ls rest)) : W p l e R s m args below meth c H locs cells slots Q (F0 m pc ls (.int z :: .ref (ad 24) :: rest)) := gy_pi (C := R_Gat) (T := F_Gat) (N := 17) (ci := 5) (fs := gf5 ad) (own := R_Gat) (ref := R_Gat) (index := 44) (j := 8) (ty := .int) X.1.1 X.1.2.1 X.1.2.2.2.2 uin_Gat t_Gat t_Gat_ok n_Gat X.1.2.2.2.1 X.2.1 rfl (by decide) (X.1.2.2.2.2 _ (gWG_in (List.mem_append_right _ q101) rfl)) (fun _ h => h) rfl rfl (fun _ => (by show 8 < 17; decide)) (fun r x => rfl) hW hS (by omega) (fun σ τ => ge_5 rfl σ τ) hq hg hn hfit hdg kk
theorem gf_Gat_47 {q : Nat × Nat × Nat} {z : Int32} (X : gcx g A p s m args c cc nL R_Gat) (hW : gW g A ad np u v H) (hq : gv np q) (hg : gi q = (24, 9)) (hz : gr u v q = z) (hdg : decode cc pc = .ok (.getfield 47, 3)) (kk : W p l e R s m args below meth c H locs cells slots Q (F0 m (pc + 3) ls (.int z :: rest))) : W p l e R s m args below meth c H locs cells slots Q (F0 m pc ls (.ref (ad 24) :: rest)) := gy_gi (C := R_Gat) (T := F_Gat) (N := 17) (ci := 5) (fs := gf5 ad) (own := R_Gat) (ref := R_Gat) (index := 47) (j := 9) X.1.1 X.1.2.1 X.1.2.2.2.2 uin_Gat X.1.2.2.2.1 X.2.1 rfl (by decide) (X.1.2.2.2.2 _ (gWG_in (List.mem_append_right _ q102) rfl)) (fun _ h => h) (fun _ => rfl) hW (by omega) (fun σ τ => ge_5 rfl σ τ) hq hg hz hdg kk
theorem pf_Gat_47 {q : Nat × Nat × Nat} {z : Int32} (X : gcx g A p s m args c cc nL R_Gat) (hW : gW g A ad np u v H) (hS : va_S A s.heap H locs) (hq : gv np q) (hg : gi q = (24, 9)) (hn : narrow (.int) (.int z) = .int z) (hfit : fits (.int) (.int z) = true) (hdg : decode cc pc = .ok (.putfield 47, 3)) (kk : ∀ (H1 : Heap) (locs1 : List Loc), gW g A ad np (gx u v q z).1 (gx u v q z).2 H1 → va_S A s.heap H1 locs1 → W p l e R s m args below meth c H1 locs1 cells slots Q (F0 m (pc + 3) ls rest)) : W p l e R s m args below meth c H locs cells slots Q (F0 m pc ls (.int z :: .ref (ad 24) :: rest)) := gy_pi (C := R_Gat) (T := F_Gat) (N := 17) (ci := 5) (fs := gf5 ad) (own := R_Gat) (ref := R_Gat) (index := 47) (j := 9) (ty := .int) X.1.1 X.1.2.1 X.1.2.2.2.2 uin_Gat t_Gat t_Gat_ok n_Gat X.1.2.2.2.1 X.2.1 rfl (by decide) (X.1.2.2.2.2 _ (gWG_in (List.mem_append_right _ q102) rfl)) (fun _ h => h) rfl rfl (fun _ => (by show 9 < 17; decide)) (fun r x => rfl) hW hS (by omega) (fun σ τ => ge_5 rfl σ τ) hq hg hn hfit hdg kk
theorem gf_Gat_53 {q : Nat × Nat × Nat} {z : Int32} (X : gcx g A p s m args c cc nL R_Gat) (hW : gW g A ad np u v H) (hq : gv np q) (hg : gi q = (24, 10)) (hz : gr u v q = z) (hdg : decode cc pc = .ok (.getfield 53, 3)) (kk : W p l e R s m args below meth c H locs cells slots Q (F0 m (pc + 3) ls (.int z :: rest))) : W p l e R s m args below meth c H locs cells slots Q (F0 m pc ls (.ref (ad 24) :: rest)) := gy_gi (C := R_Gat) (T := F_Gat) (N := 17) (ci := 5) (fs := gf5 ad) (own := R_Gat) (ref := R_Gat) (index := 53) (j := 10) X.1.1 X.1.2.1 X.1.2.2.2.2 uin_Gat X.1.2.2.2.1 X.2.1 rfl (by decide) (X.1.2.2.2.2 _ (gWG_in (List.mem_append_right _ q103) rfl)) (fun _ h => h) (fun _ => rfl) hW (by omega) (fun σ τ => ge_5 rfl σ τ) hq hg hz hdg kk
theorem pf_Gat_53 {q : Nat × Nat × Nat} {z : Int32} (X : gcx g A p s m args c cc nL R_Gat) (hW : gW g A ad np u v H) (hS : va_S A s.heap H locs) (hq : gv np q) (hg : gi q = (24, 10)) (hn : narrow (.int) (.int z) = .int z) (hfit : fits (.int) (.int z) = true) (hdg : decode cc pc = .ok (.putfield 53, 3)) (kk : ∀ (H1 : Heap) (locs1 : List Loc), gW g A ad np (gx u v q z).1 (gx u v q z).2 H1 → va_S A s.heap H1 locs1 → W p l e R s m args below meth c H1 locs1 cells slots Q (F0 m (pc + 3) ls rest)) : W p l e R s m args below meth c H locs cells slots Q (F0 m pc ls (.int z :: .ref (ad 24) :: rest)) := gy_pi (C := R_Gat) (T := F_Gat) (N := 17) (ci := 5) (fs := gf5 ad) (own := R_Gat) (ref := R_Gat) (index := 53) (j := 10) (ty := .int) X.1.1 X.1.2.1 X.1.2.2.2.2 uin_Gat t_Gat t_Gat_ok n_Gat X.1.2.2.2.1 X.2.1 rfl (by decide) (X.1.2.2.2.2 _ (gWG_in (List.mem_append_right _ q103) rfl)) (fun _ h => h) rfl rfl (fun _ => (by show 10 < 17; decide)) (fun r x => rfl) hW hS (by omega) (fun σ τ => ge_5 rfl σ τ) hq hg hn hfit hdg kk
theorem gf_Gat_56 {q : Nat × Nat × Nat} {z : Int32} (X : gcx g A p s m args c cc nL R_Gat) (hW : gW g A ad np u v H) (hq : gv np q) (hg : gi q = (24, 11)) (hz : gr u v q = z) (hdg : decode cc pc = .ok (.getfield 56, 3)) (kk : W p l e R s m args below meth c H locs cells slots Q (F0 m (pc + 3) ls (.int z :: rest))) : W p l e R s m args below meth c H locs cells slots Q (F0 m pc ls (.ref (ad 24) :: rest)) := gy_gi (C := R_Gat) (T := F_Gat) (N := 17) (ci := 5) (fs := gf5 ad) (own := R_Gat) (ref := R_Gat) (index := 56) (j := 11) X.1.1 X.1.2.1 X.1.2.2.2.2 uin_Gat X.1.2.2.2.1 X.2.1 rfl (by decide) (X.1.2.2.2.2 _ (gWG_in (List.mem_append_right _ q104) rfl)) (fun _ h => h) (fun _ => rfl) hW (by omega) (fun σ τ => ge_5 rfl σ τ) hq hg hz hdg kk
theorem pf_Gat_56 {q : Nat × Nat × Nat} {z : Int32} (X : gcx g A p s m args c cc nL R_Gat) (hW : gW g A ad np u v H) (hS : va_S A s.heap H locs) (hq : gv np q) (hg : gi q = (24, 11)) (hn : narrow (.int) (.int z) = .int z) (hfit : fits (.int) (.int z) = true) (hdg : decode cc pc = .ok (.putfield 56, 3)) (kk : ∀ (H1 : Heap) (locs1 : List Loc), gW g A ad np (gx u v q z).1 (gx u v q z).2 H1 → va_S A s.heap H1 locs1 → W p l e R s m args below meth c H1 locs1 cells slots Q (F0 m (pc + 3) ls rest)) : W p l e R s m args below meth c H locs cells slots Q (F0 m pc ls (.int z :: .ref (ad 24) :: rest)) := gy_pi (C := R_Gat) (T := F_Gat) (N := 17) (ci := 5) (fs := gf5 ad) (own := R_Gat) (ref := R_Gat) (index := 56) (j := 11) (ty := .int) X.1.1 X.1.2.1 X.1.2.2.2.2 uin_Gat t_Gat t_Gat_ok n_Gat X.1.2.2.2.1 X.2.1 rfl (by decide) (X.1.2.2.2.2 _ (gWG_in (List.mem_append_right _ q104) rfl)) (fun _ h => h) rfl rfl (fun _ => (by show 11 < 17; decide)) (fun r x => rfl) hW hS (by omega) (fun σ τ => ge_5 rfl σ τ) hq hg hn hfit hdg kk
theorem gf_PG_131 {q : Nat × Nat × Nat} {z : Int32} (X : gcx g A p s m args c cc nL R_PG) (hW : gW g A ad np u v H) (hq : gv np q) (hg : gi q = (24, 11)) (hz : gr u v q = z) (hdg : decode cc pc = .ok (.getfield 131, 3)) (kk : W p l e R s m args below meth c H locs cells slots Q (F0 m (pc + 3) ls (.int z :: rest))) : W p l e R s m args below meth c H locs cells slots Q (F0 m pc ls (.ref (ad 24) :: rest)) := gy_giN (C := R_Gat) (T := F_Gat) (N := 17) (ci := 5) (fs := gf5 ad) (own := R_PG) (ref := R_Gat) (index := 131) (j := 11) (host := "PoliteGatherer") X.1.1 X.1.2.1 X.1.2.2.2.2 uin_Gat X.1.2.2.2.1 X.2.1 rfl (by decide) (va_Nw.use rfl (X.2.2.2.1 _ (gN_in (List.mem_append_right _ q105) rfl))) (fun _ h => h) (fun _ => rfl) hW (by omega) (fun σ τ => ge_5 rfl σ τ) hq hg hz hdg kk
theorem gf_Gat_59 {q : Nat × Nat × Nat} {z : Int32} (X : gcx g A p s m args c cc nL R_Gat) (hW : gW g A ad np u v H) (hq : gv np q) (hg : gi q = (24, 12)) (hz : gr u v q = z) (hdg : decode cc pc = .ok (.getfield 59, 3)) (kk : W p l e R s m args below meth c H locs cells slots Q (F0 m (pc + 3) ls (.int z :: rest))) : W p l e R s m args below meth c H locs cells slots Q (F0 m pc ls (.ref (ad 24) :: rest)) := gy_gi (C := R_Gat) (T := F_Gat) (N := 17) (ci := 5) (fs := gf5 ad) (own := R_Gat) (ref := R_Gat) (index := 59) (j := 12) X.1.1 X.1.2.1 X.1.2.2.2.2 uin_Gat X.1.2.2.2.1 X.2.1 rfl (by decide) (X.1.2.2.2.2 _ (gWG_in (List.mem_append_right _ q106) rfl)) (fun _ h => h) (fun _ => rfl) hW (by omega) (fun σ τ => ge_5 rfl σ τ) hq hg hz hdg kk
theorem pf_Gat_59 {q : Nat × Nat × Nat} {z : Int32} (X : gcx g A p s m args c cc nL R_Gat) (hW : gW g A ad np u v H) (hS : va_S A s.heap H locs) (hq : gv np q) (hg : gi q = (24, 12)) (hn : narrow (.int) (.int z) = .int z) (hfit : fits (.int) (.int z) = true) (hdg : decode cc pc = .ok (.putfield 59, 3)) (kk : ∀ (H1 : Heap) (locs1 : List Loc), gW g A ad np (gx u v q z).1 (gx u v q z).2 H1 → va_S A s.heap H1 locs1 → W p l e R s m args below meth c H1 locs1 cells slots Q (F0 m (pc + 3) ls rest)) : W p l e R s m args below meth c H locs cells slots Q (F0 m pc ls (.int z :: .ref (ad 24) :: rest)) := gy_pi (C := R_Gat) (T := F_Gat) (N := 17) (ci := 5) (fs := gf5 ad) (own := R_Gat) (ref := R_Gat) (index := 59) (j := 12) (ty := .int) X.1.1 X.1.2.1 X.1.2.2.2.2 uin_Gat t_Gat t_Gat_ok n_Gat X.1.2.2.2.1 X.2.1 rfl (by decide) (X.1.2.2.2.2 _ (gWG_in (List.mem_append_right _ q106) rfl)) (fun _ h => h) rfl rfl (fun _ => (by show 12 < 17; decide)) (fun r x => rfl) hW hS (by omega) (fun σ τ => ge_5 rfl σ τ) hq hg hn hfit hdg kk
theorem gf_PG_111 {q : Nat × Nat × Nat} {z : Int32} (X : gcx g A p s m args c cc nL R_PG) (hW : gW g A ad np u v H) (hq : gv np q) (hg : gi q = (24, 12)) (hz : gr u v q = z) (hdg : decode cc pc = .ok (.getfield 111, 3)) (kk : W p l e R s m args below meth c H locs cells slots Q (F0 m (pc + 3) ls (.int z :: rest))) : W p l e R s m args below meth c H locs cells slots Q (F0 m pc ls (.ref (ad 24) :: rest)) := gy_giN (C := R_Gat) (T := F_Gat) (N := 17) (ci := 5) (fs := gf5 ad) (own := R_PG) (ref := R_Gat) (index := 111) (j := 12) (host := "PoliteGatherer") X.1.1 X.1.2.1 X.1.2.2.2.2 uin_Gat X.1.2.2.2.1 X.2.1 rfl (by decide) (va_Nw.use rfl (X.2.2.2.1 _ (gN_in (List.mem_append_right _ q107) rfl))) (fun _ h => h) (fun _ => rfl) hW (by omega) (fun σ τ => ge_5 rfl σ τ) hq hg hz hdg kk
theorem gf_Gat_104 {q : Nat × Nat × Nat} {z : Int32} (X : gcx g A p s m args c cc nL R_Gat) (hW : gW g A ad np u v H) (hq : gv np q) (hg : gi q = (24, 13)) (hz : gr u v q = z) (hdg : decode cc pc = .ok (.getfield 104, 3)) (kk : W p l e R s m args below meth c H locs cells slots Q (F0 m (pc + 3) ls (.int z :: rest))) : W p l e R s m args below meth c H locs cells slots Q (F0 m pc ls (.ref (ad 24) :: rest)) := gy_gi (C := R_Gat) (T := F_Gat) (N := 17) (ci := 5) (fs := gf5 ad) (own := R_Gat) (ref := R_Gat) (index := 104) (j := 13) X.1.1 X.1.2.1 X.1.2.2.2.2 uin_Gat X.1.2.2.2.1 X.2.1 rfl (by decide) (X.1.2.2.2.2 _ (gWG_in (List.mem_append_right _ q108) rfl)) (fun _ h => h) (fun _ => rfl) hW (by omega) (fun σ τ => ge_5 rfl σ τ) hq hg hz hdg kk
theorem pf_Gat_104 {q : Nat × Nat × Nat} {z : Int32} (X : gcx g A p s m args c cc nL R_Gat) (hW : gW g A ad np u v H) (hS : va_S A s.heap H locs) (hq : gv np q) (hg : gi q = (24, 13)) (hn : narrow (.int) (.int z) = .int z) (hfit : fits (.int) (.int z) = true) (hdg : decode cc pc = .ok (.putfield 104, 3)) (kk : ∀ (H1 : Heap) (locs1 : List Loc), gW g A ad np (gx u v q z).1 (gx u v q z).2 H1 → va_S A s.heap H1 locs1 → W p l e R s m args below meth c H1 locs1 cells slots Q (F0 m (pc + 3) ls rest)) : W p l e R s m args below meth c H locs cells slots Q (F0 m pc ls (.int z :: .ref (ad 24) :: rest)) := gy_pi (C := R_Gat) (T := F_Gat) (N := 17) (ci := 5) (fs := gf5 ad) (own := R_Gat) (ref := R_Gat) (index := 104) (j := 13) (ty := .int) X.1.1 X.1.2.1 X.1.2.2.2.2 uin_Gat t_Gat t_Gat_ok n_Gat X.1.2.2.2.1 X.2.1 rfl (by decide) (X.1.2.2.2.2 _ (gWG_in (List.mem_append_right _ q108) rfl)) (fun _ h => h) rfl rfl (fun _ => (by show 13 < 17; decide)) (fun r x => rfl) hW hS (by omega) (fun σ τ => ge_5 rfl σ τ) hq hg hn hfit hdg kk
theorem gf_Gat_128 {q : Nat × Nat × Nat} {z : Int32} (X : gcx g A p s m args c cc nL R_Gat) (hW : gW g A ad np u v H) (hq : gv np q) (hg : gi q = (24, 14)) (hz : gr u v q = z) (hdg : decode cc pc = .ok (.getfield 128, 3)) (kk : W p l e R s m args below meth c H locs cells slots Q (F0 m (pc + 3) ls (.int z :: rest))) : W p l e R s m args below meth c H locs cells slots Q (F0 m pc ls (.ref (ad 24) :: rest)) := gy_gi (C := R_Gat) (T := F_Gat) (N := 17) (ci := 5) (fs := gf5 ad) (own := R_Gat) (ref := R_Gat) (index := 128) (j := 14) X.1.1 X.1.2.1 X.1.2.2.2.2 uin_Gat X.1.2.2.2.1 X.2.1 rfl (by decide) (X.1.2.2.2.2 _ (gWG_in (List.mem_append_right _ q109) rfl)) (fun _ h => h) (fun _ => rfl) hW (by omega) (fun σ τ => ge_5 rfl σ τ) hq hg hz hdg kk
theorem pf_Gat_128 {q : Nat × Nat × Nat} {z : Int32} (X : gcx g A p s m args c cc nL R_Gat) (hW : gW g A ad np u v H) (hS : va_S A s.heap H locs) (hq : gv np q) (hg : gi q = (24, 14)) (hn : narrow (.int) (.int z) = .int z) (hfit : fits (.int) (.int z) = true) (hdg : decode cc pc = .ok (.putfield 128, 3)) (kk : ∀ (H1 : Heap) (locs1 : List Loc), gW g A ad np (gx u v q z).1 (gx u v q z).2 H1 → va_S A s.heap H1 locs1 → W p l e R s m args below meth c H1 locs1 cells slots Q (F0 m (pc + 3) ls rest)) : W p l e R s m args below meth c H locs cells slots Q (F0 m pc ls (.int z :: .ref (ad 24) :: rest)) := gy_pi (C := R_Gat) (T := F_Gat) (N := 17) (ci := 5) (fs := gf5 ad) (own := R_Gat) (ref := R_Gat) (index := 128) (j := 14) (ty := .int) X.1.1 X.1.2.1 X.1.2.2.2.2 uin_Gat t_Gat t_Gat_ok n_Gat X.1.2.2.2.1 X.2.1 rfl (by decide) (X.1.2.2.2.2 _ (gWG_in (List.mem_append_right _ q109) rfl)) (fun _ h => h) rfl rfl (fun _ => (by show 14 < 17; decide)) (fun r x => rfl) hW hS (by omega) (fun σ τ => ge_5 rfl σ τ) hq hg hn hfit hdg kk
theorem gf_Gat_131 {q : Nat × Nat × Nat} {z : Int32} (X : gcx g A p s m args c cc nL R_Gat) (hW : gW g A ad np u v H) (hq : gv np q) (hg : gi q = (24, 15)) (hz : gr u v q = z) (hdg : decode cc pc = .ok (.getfield 131, 3)) (kk : W p l e R s m args below meth c H locs cells slots Q (F0 m (pc + 3) ls (.int z :: rest))) : W p l e R s m args below meth c H locs cells slots Q (F0 m pc ls (.ref (ad 24) :: rest)) := gy_gi (C := R_Gat) (T := F_Gat) (N := 17) (ci := 5) (fs := gf5 ad) (own := R_Gat) (ref := R_Gat) (index := 131) (j := 15) X.1.1 X.1.2.1 X.1.2.2.2.2 uin_Gat X.1.2.2.2.1 X.2.1 rfl (by decide) (X.1.2.2.2.2 _ (gWG_in (List.mem_append_right _ q110) rfl)) (fun _ h => h) (fun _ => rfl) hW (by omega) (fun σ τ => ge_5 rfl σ τ) hq hg hz hdg kk
theorem pf_Gat_131 {q : Nat × Nat × Nat} {z : Int32} (X : gcx g A p s m args c cc nL R_Gat) (hW : gW g A ad np u v H) (hS : va_S A s.heap H locs) (hq : gv np q) (hg : gi q = (24, 15)) (hn : narrow (.int) (.int z) = .int z) (hfit : fits (.int) (.int z) = true) (hdg : decode cc pc = .ok (.putfield 131, 3)) (kk : ∀ (H1 : Heap) (locs1 : List Loc), gW g A ad np (gx u v q z).1 (gx u v q z).2 H1 → va_S A s.heap H1 locs1 → W p l e R s m args below meth c H1 locs1 cells slots Q (F0 m (pc + 3) ls rest)) : W p l e R s m args below meth c H locs cells slots Q (F0 m pc ls (.int z :: .ref (ad 24) :: rest)) := gy_pi (C := R_Gat) (T := F_Gat) (N := 17) (ci := 5) (fs := gf5 ad) (own := R_Gat) (ref := R_Gat) (index := 131) (j := 15) (ty := .int) X.1.1 X.1.2.1 X.1.2.2.2.2 uin_Gat t_Gat t_Gat_ok n_Gat X.1.2.2.2.1 X.2.1 rfl (by decide) (X.1.2.2.2.2 _ (gWG_in (List.mem_append_right _ q110) rfl)) (fun _ h => h) rfl rfl (fun _ => (by show 15 < 17; decide)) (fun r x => rfl) hW hS (by omega) (fun σ τ => ge_5 rfl σ τ) hq hg hn hfit hdg kk
theorem gf_Gat_134 {q : Nat × Nat × Nat} {z : Int32} (X : gcx g A p s m args c cc nL R_Gat) (hW : gW g A ad np u v H) (hq : gv np q) (hg : gi q = (24, 16)) (hz : gr u v q = z) (hdg : decode cc pc = .ok (.getfield 134, 3)) (kk : W p l e R s m args below meth c H locs cells slots Q (F0 m (pc + 3) ls (.int z :: rest))) : W p l e R s m args below meth c H locs cells slots Q (F0 m pc ls (.ref (ad 24) :: rest)) := gy_gi (C := R_Gat) (T := F_Gat) (N := 17) (ci := 5) (fs := gf5 ad) (own := R_Gat) (ref := R_Gat) (index := 134) (j := 16) X.1.1 X.1.2.1 X.1.2.2.2.2 uin_Gat X.1.2.2.2.1 X.2.1 rfl (by decide) (X.1.2.2.2.2 _ (gWG_in (List.mem_append_right _ q111) rfl)) (fun _ h => h) (fun _ => rfl) hW (by omega) (fun σ τ => ge_5 rfl σ τ) hq hg hz hdg kk
theorem pf_Gat_134 {q : Nat × Nat × Nat} {z : Int32} (X : gcx g A p s m args c cc nL R_Gat) (hW : gW g A ad np u v H) (hS : va_S A s.heap H locs) (hq : gv np q) (hg : gi q = (24, 16)) (hn : narrow (.int) (.int z) = .int z) (hfit : fits (.int) (.int z) = true) (hdg : decode cc pc = .ok (.putfield 134, 3)) (kk : ∀ (H1 : Heap) (locs1 : List Loc), gW g A ad np (gx u v q z).1 (gx u v q z).2 H1 → va_S A s.heap H1 locs1 → W p l e R s m args below meth c H1 locs1 cells slots Q (F0 m (pc + 3) ls rest)) : W p l e R s m args below meth c H locs cells slots Q (F0 m pc ls (.int z :: .ref (ad 24) :: rest)) := gy_pi (C := R_Gat) (T := F_Gat) (N := 17) (ci := 5) (fs := gf5 ad) (own := R_Gat) (ref := R_Gat) (index := 134) (j := 16) (ty := .int) X.1.1 X.1.2.1 X.1.2.2.2.2 uin_Gat t_Gat t_Gat_ok n_Gat X.1.2.2.2.1 X.2.1 rfl (by decide) (X.1.2.2.2.2 _ (gWG_in (List.mem_append_right _ q111) rfl)) (fun _ h => h) rfl rfl (fun _ => (by show 16 < 17; decide)) (fun r x => rfl) hW hS (by omega) (fun σ τ => ge_5 rfl σ τ) hq hg hn hfit hdg kk
theorem gf_Rank_9 (X : gcx g A p s m args c cc nL R_Rank) (hW : gW g A ad np u v H) (hdg : decode cc pc = .ok (.getfield 9, 3)) (kk : W p l e R s m args below meth c H locs cells slots Q (F0 m (pc + 3) ls (.ref (ad (1)) :: rest))) : W p l e R s m args below meth c H locs cells slots Q (F0 m pc ls (.ref (ad 34) :: rest)) := gy_gr (t := 1) (C := R_Rank) (T := F_Rank) (N := 8) (ci := 6) (fs := fun _ => gf6 ad) (own := R_Rank) (ref := R_Rank) (index := 9) (j := 0) X.1.1 X.1.2.1 X.1.2.2.2.2 uin_Rank X.1.2.2.2.1 X.2.1 rfl (by decide) (X.1.2.2.2.2 _ (gWG_in (List.mem_append_right _ q157) rfl)) (fun _ h => h) (fun _ => rfl) hW (by omega) (fun σ τ => ge_6 rfl σ τ) hdg kk
theorem gf_Rank_15 (X : gcx g A p s m args c cc nL R_Rank) (hW : gW g A ad np u v H) (hdg : decode cc pc = .ok (.getfield 15, 3)) (kk : W p l e R s m args below meth c H locs cells slots Q (F0 m (pc + 3) ls (.ref (ad (24)) :: rest))) : W p l e R s m args below meth c H locs cells slots Q (F0 m pc ls (.ref (ad 34) :: rest)) := gy_gr (t := 24) (C := R_Rank) (T := F_Rank) (N := 8) (ci := 6) (fs := fun _ => gf6 ad) (own := R_Rank) (ref := R_Rank) (index := 15) (j := 1) X.1.1 X.1.2.1 X.1.2.2.2.2 uin_Rank X.1.2.2.2.1 X.2.1 rfl (by decide) (X.1.2.2.2.2 _ (gWG_in (List.mem_append_right _ q158) rfl)) (fun _ h => h) (fun _ => rfl) hW (by omega) (fun σ τ => ge_6 rfl σ τ) hdg kk
theorem gf_Rank_24 (X : gcx g A p s m args c cc nL R_Rank) (hW : gW g A ad np u v H) (hdg : decode cc pc = .ok (.getfield 24, 3)) (kk : W p l e R s m args below meth c H locs cells slots Q (F0 m (pc + 3) ls (.ref (ad (35)) :: rest))) : W p l e R s m args below meth c H locs cells slots Q (F0 m pc ls (.ref (ad 34) :: rest)) := gy_gr (t := 35) (C := R_Rank) (T := F_Rank) (N := 8) (ci := 6) (fs := fun _ => gf6 ad) (own := R_Rank) (ref := R_Rank) (index := 24) (j := 2) X.1.1 X.1.2.1 X.1.2.2.2.2 uin_Rank X.1.2.2.2.1 X.2.1 rfl (by decide) (X.1.2.2.2.2 _ (gWG_in (List.mem_append_right _ q159) rfl)) (fun _ h => h) (fun _ => rfl) hW (by omega) (fun σ τ => ge_6 rfl σ τ) hdg kk
theorem gf_Rank_30 (X : gcx g A p s m args c cc nL R_Rank) (hW : gW g A ad np u v H) (hdg : decode cc pc = .ok (.getfield 30, 3)) (kk : W p l e R s m args below meth c H locs cells slots Q (F0 m (pc + 3) ls (.ref (ad (37)) :: rest))) : W p l e R s m args below meth c H locs cells slots Q (F0 m pc ls (.ref (ad 34) :: rest)) := gy_gr (t := 37) (C := R_Rank) (T := F_Rank) (N := 8) (ci := 6) (fs := fun _ => gf6 ad) (own := R_Rank) (ref := R_Rank) (index := 30) (j := 3) X.1.1 X.1.2.1 X.1.2.2.2.2 uin_Rank X.1.2.2.2.1 X.2.1 rfl (by decide) (X.1.2.2.2.2 _ (gWG_in (List.mem_append_right _ q160) rfl)) (fun _ h => h) (fun _ => rfl) hW (by omega) (fun σ τ => ge_6 rfl σ τ) hdg kk
theorem gf_Rank_33 (X : gcx g A p s m args c cc nL R_Rank) (hW : gW g A ad np u v H) (hdg : decode cc pc = .ok (.getfield 33, 3)) (kk : W p l e R s m args below meth c H locs cells slots Q (F0 m (pc + 3) ls (.ref (ad (70)) :: rest))) : W p l e R s m args below meth c H locs cells slots Q (F0 m pc ls (.ref (ad 34) :: rest)) := gy_gr (t := 70) (C := R_Rank) (T := F_Rank) (N := 8) (ci := 6) (fs := fun _ => gf6 ad) (own := R_Rank) (ref := R_Rank) (index := 33) (j := 4) X.1.1 X.1.2.1 X.1.2.2.2.2 uin_Rank X.1.2.2.2.1 X.2.1 rfl (by decide) (X.1.2.2.2.2 _ (gWG_in (List.mem_append_right _ q161) rfl)) (fun _ h => h) (fun _ => rfl) hW (by omega) (fun σ τ => ge_6 rfl σ τ) hdg kk
theorem gf_Rank_37 (X : gcx g A p s m args c cc nL R_Rank) (hW : gW g A ad np u v H) (hdg : decode cc pc = .ok (.getfield 37, 3)) (kk : W p l e R s m args below meth c H locs cells slots Q (F0 m (pc + 3) ls (.ref (ad (71)) :: rest))) : W p l e R s m args below meth c H locs cells slots Q (F0 m pc ls (.ref (ad 34) :: rest)) := gy_gr (t := 71) (C := R_Rank) (T := F_Rank) (N := 8) (ci := 6) (fs := fun _ => gf6 ad) (own := R_Rank) (ref := R_Rank) (index := 37) (j := 5) X.1.1 X.1.2.1 X.1.2.2.2.2 uin_Rank X.1.2.2.2.1 X.2.1 rfl (by decide) (X.1.2.2.2.2 _ (gWG_in (List.mem_append_right _ q162) rfl)) (fun _ h => h) (fun _ => rfl) hW (by omega) (fun σ τ => ge_6 rfl σ τ) hdg kk
theorem gf_PG_151 (X : gcx g A p s m args c cc nL R_PG) (hW : gW g A ad np u v H) (hdg : decode cc pc = .ok (.getfield 151, 3)) (kk : W p l e R s m args below meth c H locs cells slots Q (F0 m (pc + 3) ls (.ref (ad (71)) :: rest))) : W p l e R s m args below meth c H locs cells slots Q (F0 m pc ls (.ref (ad 34) :: rest)) := gy_grN (t := 71) (C := R_Rank) (T := F_Rank) (N := 8) (ci := 6) (fs := fun _ => gf6 ad) (own := R_PG) (ref := R_Rank) (index := 151) (j := 5) (host := "PoliteGatherer") X.1.1 X.1.2.1 X.1.2.2.2.2 uin_Rank X.1.2.2.2.1 X.2.1 rfl (by decide) (va_Nw.use rfl (X.2.2.2.1 _ (gN_in (List.mem_append_right _ q163) rfl))) (fun _ h => h) (fun _ => rfl) hW (by omega) (fun σ τ => ge_6 rfl σ τ) hdg kk
theorem gf_Rank_41 (X : gcx g A p s m args c cc nL R_Rank) (hW : gW g A ad np u v H) (hdg : decode cc pc = .ok (.getfield 41, 3)) (kk : W p l e R s m args below meth c H locs cells slots Q (F0 m (pc + 3) ls (.ref (ad (72)) :: rest))) : W p l e R s m args below meth c H locs cells slots Q (F0 m pc ls (.ref (ad 34) :: rest)) := gy_gr (t := 72) (C := R_Rank) (T := F_Rank) (N := 8) (ci := 6) (fs := fun _ => gf6 ad) (own := R_Rank) (ref := R_Rank) (index := 41) (j := 6) X.1.1 X.1.2.1 X.1.2.2.2.2 uin_Rank X.1.2.2.2.1 X.2.1 rfl (by decide) (X.1.2.2.2.2 _ (gWG_in (List.mem_append_right _ q164) rfl)) (fun _ h => h) (fun _ => rfl) hW (by omega) (fun σ τ => ge_6 rfl σ τ) hdg kk
theorem gf_Rank_44 (X : gcx g A p s m args c cc nL R_Rank) (hW : gW g A ad np u v H) (hdg : decode cc pc = .ok (.getfield 44, 3)) (kk : W p l e R s m args below meth c H locs cells slots Q (F0 m (pc + 3) ls (.ref (ad (73)) :: rest))) : W p l e R s m args below meth c H locs cells slots Q (F0 m pc ls (.ref (ad 34) :: rest)) := gy_gr (t := 73) (C := R_Rank) (T := F_Rank) (N := 8) (ci := 6) (fs := fun _ => gf6 ad) (own := R_Rank) (ref := R_Rank) (index := 44) (j := 7) X.1.1 X.1.2.1 X.1.2.2.2.2 uin_Rank X.1.2.2.2.1 X.2.1 rfl (by decide) (X.1.2.2.2.2 _ (gWG_in (List.mem_append_right _ q165) rfl)) (fun _ h => h) (fun _ => rfl) hW (by omega) (fun σ τ => ge_6 rfl σ τ) hdg kk
theorem gf_PG_10 (X : gcx g A p s m args c cc nL R_PG) (hW : gW g A ad np u v H) (hdg : decode cc pc = .ok (.getfield 10, 3)) (kk : W p l e R s m args below meth c H locs cells slots Q (F0 m (pc + 3) ls (.ref (ad (1)) :: rest))) : W p l e R s m args below meth c H locs cells slots Q (F0 m pc ls (.ref (ad 0) :: rest)) := gy_gr (t := 1) (C := R_PG) (T := F_PG) (N := 4) (ci := 0) (fs := gf0 ad) (own := R_PG) (ref := R_PG) (index := 10) (j := 0) X.1.1 X.1.2.1 X.1.2.2.2.2 uin_PG X.1.2.2.2.1 X.2.1 rfl (by decide) (X.1.2.2.2.2 _ (gWG_in (List.mem_append_right _ q184) rfl)) (fun _ h => h) (fun _ => rfl) hW (by omega) (fun σ τ => ge_0 rfl σ τ) hdg kk
theorem gf_PG_21 (X : gcx g A p s m args c cc nL R_PG) (hW : gW g A ad np u v H) (hdg : decode cc pc = .ok (.getfield 21, 3)) (kk : W p l e R s m args below meth c H locs cells slots Q (F0 m (pc + 3) ls (.ref (ad (24)) :: rest))) : W p l e R s m args below meth c H locs cells slots Q (F0 m pc ls (.ref (ad 0) :: rest)) := gy_gr (t := 24) (C := R_PG) (T := F_PG) (N := 4) (ci := 0) (fs := gf0 ad) (own := R_PG) (ref := R_PG) (index := 21) (j := 1) X.1.1 X.1.2.1 X.1.2.2.2.2 uin_PG X.1.2.2.2.1 X.2.1 rfl (by decide) (X.1.2.2.2.2 _ (gWG_in (List.mem_append_right _ q185) rfl)) (fun _ h => h) (fun _ => rfl) hW (by omega) (fun σ τ => ge_0 rfl σ τ) hdg kk
theorem gf_PG_30 (X : gcx g A p s m args c cc nL R_PG) (hW : gW g A ad np u v H) (hdg : decode cc pc = .ok (.getfield 30, 3)) (kk : W p l e R s m args below meth c H locs cells slots Q (F0 m (pc + 3) ls (.ref (ad (34)) :: rest))) : W p l e R s m args below meth c H locs cells slots Q (F0 m pc ls (.ref (ad 0) :: rest)) := gy_gr (t := 34) (C := R_PG) (T := F_PG) (N := 4) (ci := 0) (fs := gf0 ad) (own := R_PG) (ref := R_PG) (index := 30) (j := 2) X.1.1 X.1.2.1 X.1.2.2.2.2 uin_PG X.1.2.2.2.1 X.2.1 rfl (by decide) (X.1.2.2.2.2 _ (gWG_in (List.mem_append_right _ q186) rfl)) (fun _ h => h) (fun _ => rfl) hW (by omega) (fun σ τ => ge_0 rfl σ τ) hdg kk
theorem gf_PG_34 {q : Nat × Nat × Nat} {z : Int32} (X : gcx g A p s m args c cc nL R_PG) (hW : gW g A ad np u v H) (hq : gv np q) (hg : gi q = (0, 3)) (hz : gr u v q = z) (hdg : decode cc pc = .ok (.getfield 34, 3)) (kk : W p l e R s m args below meth c H locs cells slots Q (F0 m (pc + 3) ls (.int z :: rest))) : W p l e R s m args below meth c H locs cells slots Q (F0 m pc ls (.ref (ad 0) :: rest)) := gy_gi (C := R_PG) (T := F_PG) (N := 4) (ci := 0) (fs := gf0 ad) (own := R_PG) (ref := R_PG) (index := 34) (j := 3) X.1.1 X.1.2.1 X.1.2.2.2.2 uin_PG X.1.2.2.2.1 X.2.1 rfl (by decide) (X.1.2.2.2.2 _ (gWG_in (List.mem_append_right _ q187) rfl)) (fun _ h => h) (fun _ => rfl) hW (by omega) (fun σ τ => ge_0 rfl σ τ) hq hg hz hdg kk
theorem pf_PG_34 {q : Nat × Nat × Nat} {z : Int32} (X : gcx g A p s m args c cc nL R_PG) (hW : gW g A ad np u v H) (hS : va_S A s.heap H locs) (hq : gv np q) (hg : gi q = (0, 3)) (hn : narrow (.boolean) (.int z) = .int z) (hfit : fits (.boolean) (.int z) = true) (hdg : decode cc pc = .ok (.putfield 34, 3)) (kk : ∀ (H1 : Heap) (locs1 : List Loc), gW g A ad np (gx u v q z).1 (gx u v q z).2 H1 → va_S A s.heap H1 locs1 → W p l e R s m args below meth c H1 locs1 cells slots Q (F0 m (pc + 3) ls rest)) : W p l e R s m args below meth c H locs cells slots Q (F0 m pc ls (.int z :: .ref (ad 0) :: rest)) := gy_pi (C := R_PG) (T := F_PG) (N := 4) (ci := 0) (fs := gf0 ad) (own := R_PG) (ref := R_PG) (index := 34) (j := 3) (ty := .boolean) X.1.1 X.1.2.1 X.1.2.2.2.2 uin_PG t_PG t_PG_ok n_PG X.1.2.2.2.1 X.2.1 rfl (by decide) (X.1.2.2.2.2 _ (gWG_in (List.mem_append_right _ q187) rfl)) (fun _ h => h) rfl rfl (fun _ => (by show 3 < 4; decide)) (fun r x => rfl) hW hS (by omega) (fun σ τ => ge_0 rfl σ τ) hq hg hn hfit hdg kk
theorem gs_Page_30 (X : gcx g A p s m args c cc nL R_Page) (hS : va_S A s.heap H locs) (hdg : decode cc pc = .ok (.getstatic 30, 3)) (kk : W p l e R s m args below meth c H locs cells slots Q (F0 m (pc + 3) ls (.ref (g.2.2 0) :: rest))) : W p l e R s m args below meth c H locs cells slots Q (F0 m pc ls rest) := va_gets X.1.1 X.1.2.1 (X.2.2.1.1 0 (by decide)).1 hS X.1.2.2.2.1 (X.1.2.2.2.2 _ (gWG_in (List.mem_append_right _ q224) rfl)) (fun _ h => h) hdg kk
theorem gf_Page_9 {q : Nat × Nat × Nat} {z : Int32} (X : gcx g A p s m args c cc nL R_Page) (hW : gW g A ad np u v H) {k : Nat} (hk : k < 94 + 5 * np) (hkk : gk k = 4) (hq : gv np q) (hg : gi q = (k, 0)) (hz : gr u v q = z) (hdg : decode cc pc = .ok (.getfield 9, 3)) (kk : W p l e R s m args below meth c H locs cells slots Q (F0 m (pc + 3) ls (.int z :: rest))) : W p l e R s m args below meth c H locs cells slots Q (F0 m pc ls (.ref (ad k) :: rest)) := gy_gi (C := R_Page) (T := F_Page) (N := 6) (ci := 4) (fs := gf4 g ad k) (own := R_Page) (ref := R_Page) (index := 9) (j := 0) X.1.1 X.1.2.1 X.1.2.2.2.2 uin_Page X.1.2.2.2.1 X.2.1 rfl (by decide) (X.1.2.2.2.2 _ (gWG_in (List.mem_append_right _ q226) rfl)) (fun _ h => h) (fun _ => rfl) hW hk (fun σ τ => ge_4 hkk σ τ) hq hg hz hdg kk
theorem gf_Web_53 {q : Nat × Nat × Nat} {z : Int32} (X : gcx g A p s m args c cc nL R_Web) (hW : gW g A ad np u v H) {k : Nat} (hk : k < 94 + 5 * np) (hkk : gk k = 4) (hq : gv np q) (hg : gi q = (k, 0)) (hz : gr u v q = z) (hdg : decode cc pc = .ok (.getfield 53, 3)) (kk : W p l e R s m args below meth c H locs cells slots Q (F0 m (pc + 3) ls (.int z :: rest))) : W p l e R s m args below meth c H locs cells slots Q (F0 m pc ls (.ref (ad k) :: rest)) := gy_giN (C := R_Page) (T := F_Page) (N := 6) (ci := 4) (fs := gf4 g ad k) (own := R_Web) (ref := R_Page) (index := 53) (j := 0) (host := "PoliteGatherer") X.1.1 X.1.2.1 X.1.2.2.2.2 uin_Page X.1.2.2.2.1 X.2.1 rfl (by decide) (va_Nw.use rfl (X.2.2.2.1 _ (gN_in (List.mem_append_right _ q227) rfl))) (fun _ h => h) (fun _ => rfl) hW hk (fun σ τ => ge_4 hkk σ τ) hq hg hz hdg kk
theorem gf_Gat_137 {q : Nat × Nat × Nat} {z : Int32} (X : gcx g A p s m args c cc nL R_Gat) (hW : gW g A ad np u v H) {k : Nat} (hk : k < 94 + 5 * np) (hkk : gk k = 4) (hq : gv np q) (hg : gi q = (k, 0)) (hz : gr u v q = z) (hdg : decode cc pc = .ok (.getfield 137, 3)) (kk : W p l e R s m args below meth c H locs cells slots Q (F0 m (pc + 3) ls (.int z :: rest))) : W p l e R s m args below meth c H locs cells slots Q (F0 m pc ls (.ref (ad k) :: rest)) := gy_giN (C := R_Page) (T := F_Page) (N := 6) (ci := 4) (fs := gf4 g ad k) (own := R_Gat) (ref := R_Page) (index := 137) (j := 0) (host := "PoliteGatherer") X.1.1 X.1.2.1 X.1.2.2.2.2 uin_Page X.1.2.2.2.1 X.2.1 rfl (by decide) (va_Nw.use rfl (X.2.2.2.1 _ (gN_in (List.mem_append_right _ q228) rfl))) (fun _ h => h) (fun _ => rfl) hW hk (fun σ τ => ge_4 hkk σ τ) hq hg hz hdg kk
theorem gf_Page_15 {q : Nat × Nat × Nat} {z : Int32} (X : gcx g A p s m args c cc nL R_Page) (hW : gW g A ad np u v H) {k : Nat} (hk : k < 94 + 5 * np) (hkk : gk k = 4) (hq : gv np q) (hg : gi q = (k, 1)) (hz : gr u v q = z) (hdg : decode cc pc = .ok (.getfield 15, 3)) (kk : W p l e R s m args below meth c H locs cells slots Q (F0 m (pc + 3) ls (.int z :: rest))) : W p l e R s m args below meth c H locs cells slots Q (F0 m pc ls (.ref (ad k) :: rest)) := gy_gi (C := R_Page) (T := F_Page) (N := 6) (ci := 4) (fs := gf4 g ad k) (own := R_Page) (ref := R_Page) (index := 15) (j := 1) X.1.1 X.1.2.1 X.1.2.2.2.2 uin_Page X.1.2.2.2.1 X.2.1 rfl (by decide) (X.1.2.2.2.2 _ (gWG_in (List.mem_append_right _ q229) rfl)) (fun _ h => h) (fun _ => rfl) hW hk (fun σ τ => ge_4 hkk σ τ) hq hg hz hdg kk
theorem gf_Web_56 {q : Nat × Nat × Nat} {z : Int32} (X : gcx g A p s m args c cc nL R_Web) (hW : gW g A ad np u v H) {k : Nat} (hk : k < 94 + 5 * np) (hkk : gk k = 4) (hq : gv np q) (hg : gi q = (k, 1)) (hz : gr u v q = z) (hdg : decode cc pc = .ok (.getfield 56, 3)) (kk : W p l e R s m args below meth c H locs cells slots Q (F0 m (pc + 3) ls (.int z :: rest))) : W p l e R s m args below meth c H locs cells slots Q (F0 m pc ls (.ref (ad k) :: rest)) := gy_giN (C := R_Page) (T := F_Page) (N := 6) (ci := 4) (fs := gf4 g ad k) (own := R_Web) (ref := R_Page) (index := 56) (j := 1) (host := "PoliteGatherer") X.1.1 X.1.2.1 X.1.2.2.2.2 uin_Page X.1.2.2.2.1 X.2.1 rfl (by decide) (va_Nw.use rfl (X.2.2.2.1 _ (gN_in (List.mem_append_right _ q230) rfl))) (fun _ h => h) (fun _ => rfl) hW hk (fun σ τ => ge_4 hkk σ τ) hq hg hz hdg kk
theorem gf_Page_23 (X : gcx g A p s m args c cc nL R_Page) (hW : gW g A ad np u v H) {k : Nat} (hk : k < 94 + 5 * np) (hkk : gk k = 4) (hdg : decode cc pc = .ok (.getfield 23, 3)) (kk : W p l e R s m args below meth c H locs cells slots Q (F0 m (pc + 3) ls (.ref (ad (k + 1)) :: rest))) : W p l e R s m args below meth c H locs cells slots Q (F0 m pc ls (.ref (ad k) :: rest)) := gy_gr (t := k + 1) (C := R_Page) (T := F_Page) (N := 6) (ci := 4) (fs := gf4 g ad k) (own := R_Page) (ref := R_Page) (index := 23) (j := 2) X.1.1 X.1.2.1 X.1.2.2.2.2 uin_Page X.1.2.2.2.1 X.2.1 rfl (by decide) (X.1.2.2.2.2 _ (gWG_in (List.mem_append_right _ q231) rfl)) (fun _ h => h) (fun _ => rfl) hW hk (fun σ τ => ge_4 hkk σ τ) hdg kk
theorem gf_Rank_62 (X : gcx g A p s m args c cc nL R_Rank) (hW : gW g A ad np u v H) {k : Nat} (hk : k < 94 + 5 * np) (hkk : gk k = 4) (hdg : decode cc pc = .ok (.getfield 62, 3)) (kk : W p l e R s m args below meth c H locs cells slots Q (F0 m (pc + 3) ls (.ref (ad (k + 1)) :: rest))) : W p l e R s m args below meth c H locs cells slots Q (F0 m pc ls (.ref (ad k) :: rest)) := gy_grN (t := k + 1) (C := R_Page) (T := F_Page) (N := 6) (ci := 4) (fs := gf4 g ad k) (own := R_Rank) (ref := R_Page) (index := 62) (j := 2) (host := "PoliteGatherer") X.1.1 X.1.2.1 X.1.2.2.2.2 uin_Page X.1.2.2.2.1 X.2.1 rfl (by decide) (va_Nw.use rfl (X.2.2.2.1 _ (gN_in (List.mem_append_right _ q232) rfl))) (fun _ h => h) (fun _ => rfl) hW hk (fun σ τ => ge_4 hkk σ τ) hdg kk
theorem gf_PG_54 (X : gcx g A p s m args c cc nL R_PG) (hW : gW g A ad np u v H) {k : Nat} (hk : k < 94 + 5 * np) (hkk : gk k = 4) (hdg : decode cc pc = .ok (.getfield 54, 3)) (kk : W p l e R s m args below meth c H locs cells slots Q (F0 m (pc + 3) ls (.ref (ad (k + 1)) :: rest))) : W p l e R s m args below meth c H locs cells slots Q (F0 m pc ls (.ref (ad k) :: rest)) := gy_grN (t := k + 1) (C := R_Page) (T := F_Page) (N := 6) (ci := 4) (fs := gf4 g ad k) (own := R_PG) (ref := R_Page) (index := 54) (j := 2) (host := "PoliteGatherer") X.1.1 X.1.2.1 X.1.2.2.2.2 uin_Page X.1.2.2.2.1 X.2.1 rfl (by decide) (va_Nw.use rfl (X.2.2.2.1 _ (gN_in (List.mem_append_right _ q233) rfl))) (fun _ h => h) (fun _ => rfl) hW hk (fun σ τ => ge_4 hkk σ τ) hdg kk
theorem gf_PG_68 (X : gcx g A p s m args c cc nL R_PG) (hW : gW g A ad np u v H) {k : Nat} (hk : k < 94 + 5 * np) (hkk : gk k = 4) (hdg : decode cc pc = .ok (.getfield 68, 3)) (kk : W p l e R s m args below meth c H locs cells slots Q (F0 m (pc + 3) ls (.ref (ad (k + 3)) :: rest))) : W p l e R s m args below meth c H locs cells slots Q (F0 m pc ls (.ref (ad k) :: rest)) := gy_grN (t := k + 3) (C := R_Page) (T := F_Page) (N := 6) (ci := 4) (fs := gf4 g ad k) (own := R_PG) (ref := R_Page) (index := 68) (j := 3) (host := "PoliteGatherer") X.1.1 X.1.2.1 X.1.2.2.2.2 uin_Page X.1.2.2.2.1 X.2.1 rfl (by decide) (va_Nw.use rfl (X.2.2.2.1 _ (gN_in (List.mem_append_right _ q235) rfl))) (fun _ h => h) (fun _ => rfl) hW hk (fun σ τ => ge_4 hkk σ τ) hdg kk
theorem gf_Gat_99 (X : gcx g A p s m args c cc nL R_Gat) (hW : gW g A ad np u v H) {k : Nat} (hk : k < 94 + 5 * np) (hkk : gk k = 4) (hdg : decode cc pc = .ok (.getfield 99, 3)) (kk : W p l e R s m args below meth c H locs cells slots Q (F0 m (pc + 3) ls (.ref (ad (k + 3)) :: rest))) : W p l e R s m args below meth c H locs cells slots Q (F0 m pc ls (.ref (ad k) :: rest)) := gy_grN (t := k + 3) (C := R_Page) (T := F_Page) (N := 6) (ci := 4) (fs := gf4 g ad k) (own := R_Gat) (ref := R_Page) (index := 99) (j := 3) (host := "PoliteGatherer") X.1.1 X.1.2.1 X.1.2.2.2.2 uin_Page X.1.2.2.2.1 X.2.1 rfl (by decide) (va_Nw.use rfl (X.2.2.2.1 _ (gN_in (List.mem_append_right _ q236) rfl))) (fun _ h => h) (fun _ => rfl) hW hk (fun σ τ => ge_4 hkk σ τ) hdg kk
theorem gf_Rank_109 (X : gcx g A p s m args c cc nL R_Rank) (hW : gW g A ad np u v H) {k : Nat} (hk : k < 94 + 5 * np) (hkk : gk k = 4) (hdg : decode cc pc = .ok (.getfield 109, 3)) (kk : W p l e R s m args below meth c H locs cells slots Q (F0 m (pc + 3) ls (.ref (ad (k + 3)) :: rest))) : W p l e R s m args below meth c H locs cells slots Q (F0 m pc ls (.ref (ad k) :: rest)) := gy_grN (t := k + 3) (C := R_Page) (T := F_Page) (N := 6) (ci := 4) (fs := gf4 g ad k) (own := R_Rank) (ref := R_Page) (index := 109) (j := 3) (host := "PoliteGatherer") X.1.1 X.1.2.1 X.1.2.2.2.2 uin_Page X.1.2.2.2.1 X.2.1 rfl (by decide) (va_Nw.use rfl (X.2.2.2.1 _ (gN_in (List.mem_append_right _ q237) rfl))) (fun _ h => h) (fun _ => rfl) hW hk (fun σ τ => ge_4 hkk σ τ) hdg kk
theorem pf_PG_77 {q : Nat × Nat × Nat} {z : Int32} (X : gcx g A p s m args c cc nL R_PG) (hW : gW g A ad np u v H) (hS : va_S A s.heap H locs) {k : Nat} (hk : k < 94 + 5 * np) (hkk : gk k = 4) (hq : gv np q) (hg : gi q = (k, 4)) {w : Nat} (hw : z.toNatClampNeg = w) (hn : narrow (.object "PoliteGatherer$Reply") (.ref (g.2.2 w)) = .ref (g.2.2 w)) (hfit : fits (.object "PoliteGatherer$Reply") (.ref (g.2.2 w)) = true) (hdg : decode cc pc = .ok (.putfield 77, 3)) (kk : ∀ (H1 : Heap) (locs1 : List Loc), gW g A ad np (gx u v q z).1 (gx u v q z).2 H1 → va_S A s.heap H1 locs1 → W p l e R s m args below meth c H1 locs1 cells slots Q (F0 m (pc + 3) ls rest)) : W p l e R s m args below meth c H locs cells slots Q (F0 m pc ls (.ref (g.2.2 w) :: .ref (ad k) :: rest)) := gy_peN (C := R_Page) (T := F_Page) (N := 6) (ci := 4) (fs := gf4 g ad k) (own := R_PG) (ref := R_Page) (index := 77) (j := 4) (host := "PoliteGatherer") (ty := .object "PoliteGatherer$Reply") X.1.1 X.1.2.1 X.1.2.2.2.2 uin_Page t_Page t_Page_ok n_Page X.1.2.2.2.1 X.2.1 rfl (by decide) (va_Nw.use rfl (X.2.2.2.1 _ (gN_in (List.mem_append_right _ q239) rfl))) (fun _ h => h) rfl rfl (fun _ => (by show 4 < 6; decide)) (fun r x => rfl) hW hS hk (fun σ τ => ge_4 hkk σ τ) hq hg hw hn hfit hdg kk
theorem gf_Gat_113 {q : Nat × Nat × Nat} {z : Int32} (X : gcx g A p s m args c cc nL R_Gat) (hW : gW g A ad np u v H) {k : Nat} (hk : k < 94 + 5 * np) (hkk : gk k = 4) (hq : gv np q) (hg : gi q = (k, 4)) (hz : gr u v q = z) (hdg : decode cc pc = .ok (.getfield 113, 3)) (kk : W p l e R s m args below meth c H locs cells slots Q (F0 m (pc + 3) ls (.ref (g.2.2 z.toNatClampNeg) :: rest))) : W p l e R s m args below meth c H locs cells slots Q (F0 m pc ls (.ref (ad k) :: rest)) := gy_geN (C := R_Page) (T := F_Page) (N := 6) (ci := 4) (fs := gf4 g ad k) (own := R_Gat) (ref := R_Page) (index := 113) (j := 4) (host := "PoliteGatherer") X.1.1 X.1.2.1 X.1.2.2.2.2 uin_Page X.1.2.2.2.1 X.2.1 rfl (by decide) (va_Nw.use rfl (X.2.2.2.1 _ (gN_in (List.mem_append_right _ q240) rfl))) (fun _ h => h) (fun _ => rfl) hW hk (fun σ τ => ge_4 hkk σ τ) hq hg hz hdg kk
theorem pf_PG_80 {q : Nat × Nat × Nat} {z : Int32} (X : gcx g A p s m args c cc nL R_PG) (hW : gW g A ad np u v H) (hS : va_S A s.heap H locs) {k : Nat} (hk : k < 94 + 5 * np) (hkk : gk k = 4) (hq : gv np q) (hg : gi q = (k, 5)) (hn : narrow (.int) (.int z) = .int z) (hfit : fits (.int) (.int z) = true) (hdg : decode cc pc = .ok (.putfield 80, 3)) (kk : ∀ (H1 : Heap) (locs1 : List Loc), gW g A ad np (gx u v q z).1 (gx u v q z).2 H1 → va_S A s.heap H1 locs1 → W p l e R s m args below meth c H1 locs1 cells slots Q (F0 m (pc + 3) ls rest)) : W p l e R s m args below meth c H locs cells slots Q (F0 m pc ls (.int z :: .ref (ad k) :: rest)) := gy_piN (C := R_Page) (T := F_Page) (N := 6) (ci := 4) (fs := gf4 g ad k) (own := R_PG) (ref := R_Page) (index := 80) (j := 5) (host := "PoliteGatherer") (ty := .int) X.1.1 X.1.2.1 X.1.2.2.2.2 uin_Page t_Page t_Page_ok n_Page X.1.2.2.2.1 X.2.1 rfl (by decide) (va_Nw.use rfl (X.2.2.2.1 _ (gN_in (List.mem_append_right _ q242) rfl))) (fun _ h => h) rfl rfl (fun _ => (by show 5 < 6; decide)) (fun r x => rfl) hW hS hk (fun σ τ => ge_4 hkk σ τ) hq hg hn hfit hdg kk
theorem gf_Gat_125 {q : Nat × Nat × Nat} {z : Int32} (X : gcx g A p s m args c cc nL R_Gat) (hW : gW g A ad np u v H) {k : Nat} (hk : k < 94 + 5 * np) (hkk : gk k = 4) (hq : gv np q) (hg : gi q = (k, 5)) (hz : gr u v q = z) (hdg : decode cc pc = .ok (.getfield 125, 3)) (kk : W p l e R s m args below meth c H locs cells slots Q (F0 m (pc + 3) ls (.int z :: rest))) : W p l e R s m args below meth c H locs cells slots Q (F0 m pc ls (.ref (ad k) :: rest)) := gy_giN (C := R_Page) (T := F_Page) (N := 6) (ci := 4) (fs := gf4 g ad k) (own := R_Gat) (ref := R_Page) (index := 125) (j := 5) (host := "PoliteGatherer") X.1.1 X.1.2.1 X.1.2.2.2.2 uin_Page X.1.2.2.2.1 X.2.1 rfl (by decide) (va_Nw.use rfl (X.2.2.2.1 _ (gN_in (List.mem_append_right _ q243) rfl))) (fun _ h => h) (fun _ => rfl) hW hk (fun σ τ => ge_4 hkk σ τ) hq hg hz hdg kk
theorem gs_PG_71 (X : gcx g A p s m args c cc nL R_PG) (hS : va_S A s.heap H locs) (hdg : decode cc pc = .ok (.getstatic 71, 3)) (kk : W p l e R s m args below meth c H locs cells slots Q (F0 m (pc + 3) ls (.ref (g.2.2 1) :: rest))) : W p l e R s m args below meth c H locs cells slots Q (F0 m pc ls rest) := va_gets X.1.1 X.1.2.1 (X.2.2.1.1 1 (by decide)).1 hS X.1.2.2.2.1 (X.1.2.2.2.2 _ (gWG_in (List.mem_append_right _ q281) rfl)) (fun _ h => h) hdg kk
theorem gs_PG_84 (X : gcx g A p s m args c cc nL R_PG) (hS : va_S A s.heap H locs) (hdg : decode cc pc = .ok (.getstatic 84, 3)) (kk : W p l e R s m args below meth c H locs cells slots Q (F0 m (pc + 3) ls (.ref (g.2.2 2) :: rest))) : W p l e R s m args below meth c H locs cells slots Q (F0 m pc ls rest) := va_gets X.1.1 X.1.2.1 (X.2.2.1.1 2 (by decide)).1 hS X.1.2.2.2.1 (X.1.2.2.2.2 _ (gWG_in (List.mem_append_right _ q287) rfl)) (fun _ h => h) hdg kk
theorem gs_Gat_117 (X : gcx g A p s m args c cc nL R_Gat) (hS : va_S A s.heap H locs) (hdg : decode cc pc = .ok (.getstatic 117, 3)) (kk : W p l e R s m args below meth c H locs cells slots Q (F0 m (pc + 3) ls (.ref (g.2.2 0) :: rest))) : W p l e R s m args below meth c H locs cells slots Q (F0 m pc ls rest) := va_gets X.1.1 X.1.2.1 (X.2.2.1.1 0 (by decide)).1 hS X.1.2.2.2.1 (X.1.2.2.2.2 _ (gWG_in (List.mem_append_right _ q377) rfl)) (fun _ h => h) hdg kk
theorem gs_Gat_122 (X : gcx g A p s m args c cc nL R_Gat) (hS : va_S A s.heap H locs) (hdg : decode cc pc = .ok (.getstatic 122, 3)) (kk : W p l e R s m args below meth c H locs cells slots Q (F0 m (pc + 3) ls (.ref (g.2.2 2) :: rest))) : W p l e R s m args below meth c H locs cells slots Q (F0 m pc ls rest) := va_gets X.1.1 X.1.2.1 (X.2.2.1.1 2 (by decide)).1 hS X.1.2.2.2.1 (X.1.2.2.2.2 _ (gWG_in (List.mem_append_right _ q378) rfl)) (fun _ h => h) hdg kk
theorem gf_Mod_69 {q : Nat × Nat × Nat} {z : Int32} (X : gcx g A p s m args c cc nL R_Mod) (hW : gW g A ad np u v H) (hq : gv np q) (hg : gi q = (74, 0)) (hz : gr u v q = z) (hdg : decode cc pc = .ok (.getfield 69, 3)) (kk : W p l e R s m args below meth c H locs cells slots Q (F0 m (pc + 3) ls (.int z :: rest))) : W p l e R s m args below meth c H locs cells slots Q (F0 m pc ls (.ref (ad 74) :: rest)) := gy_gi (C := R_Mod) (T := F_Mod) (N := 37) (ci := 7) (fs := gf7 ad) (own := R_Mod) (ref := R_Mod) (index := 69) (j := 0) X.1.1 X.1.2.1 X.1.2.2.2.2 uin_Mod X.1.2.2.2.1 X.2.1 rfl (by decide) (X.1.2.2.2.2 _ (gWG_in (List.mem_append_right _ q500) rfl)) (fun _ h => h) (fun _ => rfl) hW (by omega) (fun σ τ => ge_7 rfl σ τ) hq hg hz hdg kk
theorem pf_Mod_69 {q : Nat × Nat × Nat} {z : Int32} (X : gcx g A p s m args c cc nL R_Mod) (hW : gW g A ad np u v H) (hS : va_S A s.heap H locs) (hq : gv np q) (hg : gi q = (74, 0)) (hn : narrow (.int) (.int z) = .int z) (hfit : fits (.int) (.int z) = true) (hdg : decode cc pc = .ok (.putfield 69, 3)) (kk : ∀ (H1 : Heap) (locs1 : List Loc), gW g A ad np (gx u v q z).1 (gx u v q z).2 H1 → va_S A s.heap H1 locs1 → W p l e R s m args below meth c H1 locs1 cells slots Q (F0 m (pc + 3) ls rest)) : W p l e R s m args below meth c H locs cells slots Q (F0 m pc ls (.int z :: .ref (ad 74) :: rest)) := gy_pi (C := R_Mod) (T := F_Mod) (N := 37) (ci := 7) (fs := gf7 ad) (own := R_Mod) (ref := R_Mod) (index := 69) (j := 0) (ty := .int) X.1.1 X.1.2.1 X.1.2.2.2.2 uin_Mod t_Mod t_Mod_ok n_Mod X.1.2.2.2.1 X.2.1 rfl (by decide) (X.1.2.2.2.2 _ (gWG_in (List.mem_append_right _ q500) rfl)) (fun _ h => h) rfl rfl (fun _ => (by show 0 < 37; decide)) (fun r x => rfl) hW hS (by omega) (fun σ τ => ge_7 rfl σ τ) hq hg hn hfit hdg kk
theorem gf_Mod_7 (X : gcx g A p s m args c cc nL R_Mod) (hW : gW g A ad np u v H) (hdg : decode cc pc = .ok (.getfield 7, 3)) (kk : W p l e R s m args below meth c H locs cells slots Q (F0 m (pc + 3) ls (.ref (ad (75)) :: rest))) : W p l e R s m args below meth c H locs cells slots Q (F0 m pc ls (.ref (ad 74) :: rest)) := gy_gr (t := 75) (C := R_Mod) (T := F_Mod) (N := 37) (ci := 7) (fs := gf7 ad) (own := R_Mod) (ref := R_Mod) (index := 7) (j := 1) X.1.1 X.1.2.1 X.1.2.2.2.2 uin_Mod X.1.2.2.2.1 X.2.1 rfl (by decide) (X.1.2.2.2.2 _ (gWG_in (List.mem_append_right _ q501) rfl)) (fun _ h => h) (fun _ => rfl) hW (by omega) (fun σ τ => ge_7 rfl σ τ) hdg kk
theorem gf_Mod_13 (X : gcx g A p s m args c cc nL R_Mod) (hW : gW g A ad np u v H) (hdg : decode cc pc = .ok (.getfield 13, 3)) (kk : W p l e R s m args below meth c H locs cells slots Q (F0 m (pc + 3) ls (.ref (ad (76)) :: rest))) : W p l e R s m args below meth c H locs cells slots Q (F0 m pc ls (.ref (ad 74) :: rest)) := gy_gr (t := 76) (C := R_Mod) (T := F_Mod) (N := 37) (ci := 7) (fs := gf7 ad) (own := R_Mod) (ref := R_Mod) (index := 13) (j := 2) X.1.1 X.1.2.1 X.1.2.2.2.2 uin_Mod X.1.2.2.2.1 X.2.1 rfl (by decide) (X.1.2.2.2.2 _ (gWG_in (List.mem_append_right _ q502) rfl)) (fun _ h => h) (fun _ => rfl) hW (by omega) (fun σ τ => ge_7 rfl σ τ) hdg kk
theorem gf_Mod_16 (X : gcx g A p s m args c cc nL R_Mod) (hW : gW g A ad np u v H) (hdg : decode cc pc = .ok (.getfield 16, 3)) (kk : W p l e R s m args below meth c H locs cells slots Q (F0 m (pc + 3) ls (.ref (ad (77)) :: rest))) : W p l e R s m args below meth c H locs cells slots Q (F0 m pc ls (.ref (ad 74) :: rest)) := gy_gr (t := 77) (C := R_Mod) (T := F_Mod) (N := 37) (ci := 7) (fs := gf7 ad) (own := R_Mod) (ref := R_Mod) (index := 16) (j := 3) X.1.1 X.1.2.1 X.1.2.2.2.2 uin_Mod X.1.2.2.2.1 X.2.1 rfl (by decide) (X.1.2.2.2.2 _ (gWG_in (List.mem_append_right _ q503) rfl)) (fun _ h => h) (fun _ => rfl) hW (by omega) (fun σ τ => ge_7 rfl σ τ) hdg kk
theorem gf_Mod_19 (X : gcx g A p s m args c cc nL R_Mod) (hW : gW g A ad np u v H) (hdg : decode cc pc = .ok (.getfield 19, 3)) (kk : W p l e R s m args below meth c H locs cells slots Q (F0 m (pc + 3) ls (.ref (ad (78)) :: rest))) : W p l e R s m args below meth c H locs cells slots Q (F0 m pc ls (.ref (ad 74) :: rest)) := gy_gr (t := 78) (C := R_Mod) (T := F_Mod) (N := 37) (ci := 7) (fs := gf7 ad) (own := R_Mod) (ref := R_Mod) (index := 19) (j := 4) X.1.1 X.1.2.1 X.1.2.2.2.2 uin_Mod X.1.2.2.2.1 X.2.1 rfl (by decide) (X.1.2.2.2.2 _ (gWG_in (List.mem_append_right _ q504) rfl)) (fun _ h => h) (fun _ => rfl) hW (by omega) (fun σ τ => ge_7 rfl σ τ) hdg kk
theorem gf_Mod_22 (X : gcx g A p s m args c cc nL R_Mod) (hW : gW g A ad np u v H) (hdg : decode cc pc = .ok (.getfield 22, 3)) (kk : W p l e R s m args below meth c H locs cells slots Q (F0 m (pc + 3) ls (.ref (ad (79)) :: rest))) : W p l e R s m args below meth c H locs cells slots Q (F0 m pc ls (.ref (ad 74) :: rest)) := gy_gr (t := 79) (C := R_Mod) (T := F_Mod) (N := 37) (ci := 7) (fs := gf7 ad) (own := R_Mod) (ref := R_Mod) (index := 22) (j := 5) X.1.1 X.1.2.1 X.1.2.2.2.2 uin_Mod X.1.2.2.2.1 X.2.1 rfl (by decide) (X.1.2.2.2.2 _ (gWG_in (List.mem_append_right _ q505) rfl)) (fun _ h => h) (fun _ => rfl) hW (by omega) (fun σ τ => ge_7 rfl σ τ) hdg kk
theorem gf_Mod_25 (X : gcx g A p s m args c cc nL R_Mod) (hW : gW g A ad np u v H) (hdg : decode cc pc = .ok (.getfield 25, 3)) (kk : W p l e R s m args below meth c H locs cells slots Q (F0 m (pc + 3) ls (.ref (ad (80)) :: rest))) : W p l e R s m args below meth c H locs cells slots Q (F0 m pc ls (.ref (ad 74) :: rest)) := gy_gr (t := 80) (C := R_Mod) (T := F_Mod) (N := 37) (ci := 7) (fs := gf7 ad) (own := R_Mod) (ref := R_Mod) (index := 25) (j := 6) X.1.1 X.1.2.1 X.1.2.2.2.2 uin_Mod X.1.2.2.2.1 X.2.1 rfl (by decide) (X.1.2.2.2.2 _ (gWG_in (List.mem_append_right _ q506) rfl)) (fun _ h => h) (fun _ => rfl) hW (by omega) (fun σ τ => ge_7 rfl σ τ) hdg kk
theorem gf_Mod_28 (X : gcx g A p s m args c cc nL R_Mod) (hW : gW g A ad np u v H) (hdg : decode cc pc = .ok (.getfield 28, 3)) (kk : W p l e R s m args below meth c H locs cells slots Q (F0 m (pc + 3) ls (.ref (ad (81)) :: rest))) : W p l e R s m args below meth c H locs cells slots Q (F0 m pc ls (.ref (ad 74) :: rest)) := gy_gr (t := 81) (C := R_Mod) (T := F_Mod) (N := 37) (ci := 7) (fs := gf7 ad) (own := R_Mod) (ref := R_Mod) (index := 28) (j := 7) X.1.1 X.1.2.1 X.1.2.2.2.2 uin_Mod X.1.2.2.2.1 X.2.1 rfl (by decide) (X.1.2.2.2.2 _ (gWG_in (List.mem_append_right _ q507) rfl)) (fun _ h => h) (fun _ => rfl) hW (by omega) (fun σ τ => ge_7 rfl σ τ) hdg kk
theorem gf_Mod_31 (X : gcx g A p s m args c cc nL R_Mod) (hW : gW g A ad np u v H) (hdg : decode cc pc = .ok (.getfield 31, 3)) (kk : W p l e R s m args below meth c H locs cells slots Q (F0 m (pc + 3) ls (.ref (ad (82)) :: rest))) : W p l e R s m args below meth c H locs cells slots Q (F0 m pc ls (.ref (ad 74) :: rest)) := gy_gr (t := 82) (C := R_Mod) (T := F_Mod) (N := 37) (ci := 7) (fs := gf7 ad) (own := R_Mod) (ref := R_Mod) (index := 31) (j := 8) X.1.1 X.1.2.1 X.1.2.2.2.2 uin_Mod X.1.2.2.2.1 X.2.1 rfl (by decide) (X.1.2.2.2.2 _ (gWG_in (List.mem_append_right _ q508) rfl)) (fun _ h => h) (fun _ => rfl) hW (by omega) (fun σ τ => ge_7 rfl σ τ) hdg kk
theorem gf_Mod_34 (X : gcx g A p s m args c cc nL R_Mod) (hW : gW g A ad np u v H) (hdg : decode cc pc = .ok (.getfield 34, 3)) (kk : W p l e R s m args below meth c H locs cells slots Q (F0 m (pc + 3) ls (.ref (ad (83)) :: rest))) : W p l e R s m args below meth c H locs cells slots Q (F0 m pc ls (.ref (ad 74) :: rest)) := gy_gr (t := 83) (C := R_Mod) (T := F_Mod) (N := 37) (ci := 7) (fs := gf7 ad) (own := R_Mod) (ref := R_Mod) (index := 34) (j := 9) X.1.1 X.1.2.1 X.1.2.2.2.2 uin_Mod X.1.2.2.2.1 X.2.1 rfl (by decide) (X.1.2.2.2.2 _ (gWG_in (List.mem_append_right _ q509) rfl)) (fun _ h => h) (fun _ => rfl) hW (by omega) (fun σ τ => ge_7 rfl σ τ) hdg kk
theorem gf_Mod_38 (X : gcx g A p s m args c cc nL R_Mod) (hW : gW g A ad np u v H) (hdg : decode cc pc = .ok (.getfield 38, 3)) (kk : W p l e R s m args below meth c H locs cells slots Q (F0 m (pc + 3) ls (.ref (ad (84)) :: rest))) : W p l e R s m args below meth c H locs cells slots Q (F0 m pc ls (.ref (ad 74) :: rest)) := gy_gr (t := 84) (C := R_Mod) (T := F_Mod) (N := 37) (ci := 7) (fs := gf7 ad) (own := R_Mod) (ref := R_Mod) (index := 38) (j := 10) X.1.1 X.1.2.1 X.1.2.2.2.2 uin_Mod X.1.2.2.2.1 X.2.1 rfl (by decide) (X.1.2.2.2.2 _ (gWG_in (List.mem_append_right _ q510) rfl)) (fun _ h => h) (fun _ => rfl) hW (by omega) (fun σ τ => ge_7 rfl σ τ) hdg kk
theorem gf_Mod_41 (X : gcx g A p s m args c cc nL R_Mod) (hW : gW g A ad np u v H) (hdg : decode cc pc = .ok (.getfield 41, 3)) (kk : W p l e R s m args below meth c H locs cells slots Q (F0 m (pc + 3) ls (.ref (ad (85)) :: rest))) : W p l e R s m args below meth c H locs cells slots Q (F0 m pc ls (.ref (ad 74) :: rest)) := gy_gr (t := 85) (C := R_Mod) (T := F_Mod) (N := 37) (ci := 7) (fs := gf7 ad) (own := R_Mod) (ref := R_Mod) (index := 41) (j := 11) X.1.1 X.1.2.1 X.1.2.2.2.2 uin_Mod X.1.2.2.2.1 X.2.1 rfl (by decide) (X.1.2.2.2.2 _ (gWG_in (List.mem_append_right _ q511) rfl)) (fun _ h => h) (fun _ => rfl) hW (by omega) (fun σ τ => ge_7 rfl σ τ) hdg kk
theorem gf_Mod_82 {q : Nat × Nat × Nat} {z : Int32} (X : gcx g A p s m args c cc nL R_Mod) (hW : gW g A ad np u v H) (hq : gv np q) (hg : gi q = (74, 12)) (hz : gr u v q = z) (hdg : decode cc pc = .ok (.getfield 82, 3)) (kk : W p l e R s m args below meth c H locs cells slots Q (F0 m (pc + 3) ls (.int z :: rest))) : W p l e R s m args below meth c H locs cells slots Q (F0 m pc ls (.ref (ad 74) :: rest)) := gy_gi (C := R_Mod) (T := F_Mod) (N := 37) (ci := 7) (fs := gf7 ad) (own := R_Mod) (ref := R_Mod) (index := 82) (j := 12) X.1.1 X.1.2.1 X.1.2.2.2.2 uin_Mod X.1.2.2.2.1 X.2.1 rfl (by decide) (X.1.2.2.2.2 _ (gWG_in (List.mem_append_right _ q512) rfl)) (fun _ h => h) (fun _ => rfl) hW (by omega) (fun σ τ => ge_7 rfl σ τ) hq hg hz hdg kk
theorem pf_Mod_82 {q : Nat × Nat × Nat} {z : Int32} (X : gcx g A p s m args c cc nL R_Mod) (hW : gW g A ad np u v H) (hS : va_S A s.heap H locs) (hq : gv np q) (hg : gi q = (74, 12)) (hn : narrow (.int) (.int z) = .int z) (hfit : fits (.int) (.int z) = true) (hdg : decode cc pc = .ok (.putfield 82, 3)) (kk : ∀ (H1 : Heap) (locs1 : List Loc), gW g A ad np (gx u v q z).1 (gx u v q z).2 H1 → va_S A s.heap H1 locs1 → W p l e R s m args below meth c H1 locs1 cells slots Q (F0 m (pc + 3) ls rest)) : W p l e R s m args below meth c H locs cells slots Q (F0 m pc ls (.int z :: .ref (ad 74) :: rest)) := gy_pi (C := R_Mod) (T := F_Mod) (N := 37) (ci := 7) (fs := gf7 ad) (own := R_Mod) (ref := R_Mod) (index := 82) (j := 12) (ty := .int) X.1.1 X.1.2.1 X.1.2.2.2.2 uin_Mod t_Mod t_Mod_ok n_Mod X.1.2.2.2.1 X.2.1 rfl (by decide) (X.1.2.2.2.2 _ (gWG_in (List.mem_append_right _ q512) rfl)) (fun _ h => h) rfl rfl (fun _ => (by show 12 < 37; decide)) (fun r x => rfl) hW hS (by omega) (fun σ τ => ge_7 rfl σ τ) hq hg hn hfit hdg kk
theorem gf_Mod_73 {q : Nat × Nat × Nat} {z : Int32} (X : gcx g A p s m args c cc nL R_Mod) (hW : gW g A ad np u v H) (hq : gv np q) (hg : gi q = (74, 13)) (hz : gr u v q = z) (hdg : decode cc pc = .ok (.getfield 73, 3)) (kk : W p l e R s m args below meth c H locs cells slots Q (F0 m (pc + 3) ls (.int z :: rest))) : W p l e R s m args below meth c H locs cells slots Q (F0 m pc ls (.ref (ad 74) :: rest)) := gy_gi (C := R_Mod) (T := F_Mod) (N := 37) (ci := 7) (fs := gf7 ad) (own := R_Mod) (ref := R_Mod) (index := 73) (j := 13) X.1.1 X.1.2.1 X.1.2.2.2.2 uin_Mod X.1.2.2.2.1 X.2.1 rfl (by decide) (X.1.2.2.2.2 _ (gWG_in (List.mem_append_right _ q513) rfl)) (fun _ h => h) (fun _ => rfl) hW (by omega) (fun σ τ => ge_7 rfl σ τ) hq hg hz hdg kk
theorem pf_Mod_73 {q : Nat × Nat × Nat} {z : Int32} (X : gcx g A p s m args c cc nL R_Mod) (hW : gW g A ad np u v H) (hS : va_S A s.heap H locs) (hq : gv np q) (hg : gi q = (74, 13)) (hn : narrow (.boolean) (.int z) = .int z) (hfit : fits (.boolean) (.int z) = true) (hdg : decode cc pc = .ok (.putfield 73, 3)) (kk : ∀ (H1 : Heap) (locs1 : List Loc), gW g A ad np (gx u v q z).1 (gx u v q z).2 H1 → va_S A s.heap H1 locs1 → W p l e R s m args below meth c H1 locs1 cells slots Q (F0 m (pc + 3) ls rest)) : W p l e R s m args below meth c H locs cells slots Q (F0 m pc ls (.int z :: .ref (ad 74) :: rest)) := gy_pi (C := R_Mod) (T := F_Mod) (N := 37) (ci := 7) (fs := gf7 ad) (own := R_Mod) (ref := R_Mod) (index := 73) (j := 13) (ty := .boolean) X.1.1 X.1.2.1 X.1.2.2.2.2 uin_Mod t_Mod t_Mod_ok n_Mod X.1.2.2.2.1 X.2.1 rfl (by decide) (X.1.2.2.2.2 _ (gWG_in (List.mem_append_right _ q513) rfl)) (fun _ h => h) rfl rfl (fun _ => (by show 13 < 37; decide)) (fun r x => rfl) hW hS (by omega) (fun σ τ => ge_7 rfl σ τ) hq hg hn hfit hdg kk
theorem gf_Mod_131 {q : Nat × Nat × Nat} {z : Int32} (X : gcx g A p s m args c cc nL R_Mod) (hW : gW g A ad np u v H) (hq : gv np q) (hg : gi q = (74, 14)) (hz : gr u v q = z) (hdg : decode cc pc = .ok (.getfield 131, 3)) (kk : W p l e R s m args below meth c H locs cells slots Q (F0 m (pc + 3) ls (.int z :: rest))) : W p l e R s m args below meth c H locs cells slots Q (F0 m pc ls (.ref (ad 74) :: rest)) := gy_gi (C := R_Mod) (T := F_Mod) (N := 37) (ci := 7) (fs := gf7 ad) (own := R_Mod) (ref := R_Mod) (index := 131) (j := 14) X.1.1 X.1.2.1 X.1.2.2.2.2 uin_Mod X.1.2.2.2.1 X.2.1 rfl (by decide) (X.1.2.2.2.2 _ (gWG_in (List.mem_append_right _ q514) rfl)) (fun _ h => h) (fun _ => rfl) hW (by omega) (fun σ τ => ge_7 rfl σ τ) hq hg hz hdg kk
theorem pf_Mod_131 {q : Nat × Nat × Nat} {z : Int32} (X : gcx g A p s m args c cc nL R_Mod) (hW : gW g A ad np u v H) (hS : va_S A s.heap H locs) (hq : gv np q) (hg : gi q = (74, 14)) (hn : narrow (.int) (.int z) = .int z) (hfit : fits (.int) (.int z) = true) (hdg : decode cc pc = .ok (.putfield 131, 3)) (kk : ∀ (H1 : Heap) (locs1 : List Loc), gW g A ad np (gx u v q z).1 (gx u v q z).2 H1 → va_S A s.heap H1 locs1 → W p l e R s m args below meth c H1 locs1 cells slots Q (F0 m (pc + 3) ls rest)) : W p l e R s m args below meth c H locs cells slots Q (F0 m pc ls (.int z :: .ref (ad 74) :: rest)) := gy_pi (C := R_Mod) (T := F_Mod) (N := 37) (ci := 7) (fs := gf7 ad) (own := R_Mod) (ref := R_Mod) (index := 131) (j := 14) (ty := .int) X.1.1 X.1.2.1 X.1.2.2.2.2 uin_Mod t_Mod t_Mod_ok n_Mod X.1.2.2.2.1 X.2.1 rfl (by decide) (X.1.2.2.2.2 _ (gWG_in (List.mem_append_right _ q514) rfl)) (fun _ h => h) rfl rfl (fun _ => (by show 14 < 37; decide)) (fun r x => rfl) hW hS (by omega) (fun σ τ => ge_7 rfl σ τ) hq hg hn hfit hdg kk
theorem gf_Mod_111 {q : Nat × Nat × Nat} {z : Int32} (X : gcx g A p s m args c cc nL R_Mod) (hW : gW g A ad np u v H) (hq : gv np q) (hg : gi q = (74, 15)) (hz : gr u v q = z) (hdg : decode cc pc = .ok (.getfield 111, 3)) (kk : W p l e R s m args below meth c H locs cells slots Q (F0 m (pc + 3) ls (.int z :: rest))) : W p l e R s m args below meth c H locs cells slots Q (F0 m pc ls (.ref (ad 74) :: rest)) := gy_gi (C := R_Mod) (T := F_Mod) (N := 37) (ci := 7) (fs := gf7 ad) (own := R_Mod) (ref := R_Mod) (index := 111) (j := 15) X.1.1 X.1.2.1 X.1.2.2.2.2 uin_Mod X.1.2.2.2.1 X.2.1 rfl (by decide) (X.1.2.2.2.2 _ (gWG_in (List.mem_append_right _ q515) rfl)) (fun _ h => h) (fun _ => rfl) hW (by omega) (fun σ τ => ge_7 rfl σ τ) hq hg hz hdg kk
theorem pf_Mod_111 {q : Nat × Nat × Nat} {z : Int32} (X : gcx g A p s m args c cc nL R_Mod) (hW : gW g A ad np u v H) (hS : va_S A s.heap H locs) (hq : gv np q) (hg : gi q = (74, 15)) (hn : narrow (.int) (.int z) = .int z) (hfit : fits (.int) (.int z) = true) (hdg : decode cc pc = .ok (.putfield 111, 3)) (kk : ∀ (H1 : Heap) (locs1 : List Loc), gW g A ad np (gx u v q z).1 (gx u v q z).2 H1 → va_S A s.heap H1 locs1 → W p l e R s m args below meth c H1 locs1 cells slots Q (F0 m (pc + 3) ls rest)) : W p l e R s m args below meth c H locs cells slots Q (F0 m pc ls (.int z :: .ref (ad 74) :: rest)) := gy_pi (C := R_Mod) (T := F_Mod) (N := 37) (ci := 7) (fs := gf7 ad) (own := R_Mod) (ref := R_Mod) (index := 111) (j := 15) (ty := .int) X.1.1 X.1.2.1 X.1.2.2.2.2 uin_Mod t_Mod t_Mod_ok n_Mod X.1.2.2.2.1 X.2.1 rfl (by decide) (X.1.2.2.2.2 _ (gWG_in (List.mem_append_right _ q515) rfl)) (fun _ h => h) rfl rfl (fun _ => (by show 15 < 37; decide)) (fun r x => rfl) hW hS (by omega) (fun σ τ => ge_7 rfl σ τ) hq hg hn hfit hdg kk
theorem gf_Mod_98 {q : Nat × Nat × Nat} {z : Int32} (X : gcx g A p s m args c cc nL R_Mod) (hW : gW g A ad np u v H) (hq : gv np q) (hg : gi q = (74, 16)) (hz : gr u v q = z) (hdg : decode cc pc = .ok (.getfield 98, 3)) (kk : W p l e R s m args below meth c H locs cells slots Q (F0 m (pc + 3) ls (.int z :: rest))) : W p l e R s m args below meth c H locs cells slots Q (F0 m pc ls (.ref (ad 74) :: rest)) := gy_gi (C := R_Mod) (T := F_Mod) (N := 37) (ci := 7) (fs := gf7 ad) (own := R_Mod) (ref := R_Mod) (index := 98) (j := 16) X.1.1 X.1.2.1 X.1.2.2.2.2 uin_Mod X.1.2.2.2.1 X.2.1 rfl (by decide) (X.1.2.2.2.2 _ (gWG_in (List.mem_append_right _ q516) rfl)) (fun _ h => h) (fun _ => rfl) hW (by omega) (fun σ τ => ge_7 rfl σ τ) hq hg hz hdg kk
theorem pf_Mod_98 {q : Nat × Nat × Nat} {z : Int32} (X : gcx g A p s m args c cc nL R_Mod) (hW : gW g A ad np u v H) (hS : va_S A s.heap H locs) (hq : gv np q) (hg : gi q = (74, 16)) (hn : narrow (.int) (.int z) = .int z) (hfit : fits (.int) (.int z) = true) (hdg : decode cc pc = .ok (.putfield 98, 3)) (kk : ∀ (H1 : Heap) (locs1 : List Loc), gW g A ad np (gx u v q z).1 (gx u v q z).2 H1 → va_S A s.heap H1 locs1 → W p l e R s m args below meth c H1 locs1 cells slots Q (F0 m (pc + 3) ls rest)) : W p l e R s m args below meth c H locs cells slots Q (F0 m pc ls (.int z :: .ref (ad 74) :: rest)) := gy_pi (C := R_Mod) (T := F_Mod) (N := 37) (ci := 7) (fs := gf7 ad) (own := R_Mod) (ref := R_Mod) (index := 98) (j := 16) (ty := .int) X.1.1 X.1.2.1 X.1.2.2.2.2 uin_Mod t_Mod t_Mod_ok n_Mod X.1.2.2.2.1 X.2.1 rfl (by decide) (X.1.2.2.2.2 _ (gWG_in (List.mem_append_right _ q516) rfl)) (fun _ h => h) rfl rfl (fun _ => (by show 16 < 37; decide)) (fun r x => rfl) hW hS (by omega) (fun σ τ => ge_7 rfl σ τ) hq hg hn hfit hdg kk
theorem gf_Mod_141 {q : Nat × Nat × Nat} {z : Int32} (X : gcx g A p s m args c cc nL R_Mod) (hW : gW g A ad np u v H) (hq : gv np q) (hg : gi q = (74, 17)) (hz : gr u v q = z) (hdg : decode cc pc = .ok (.getfield 141, 3)) (kk : W p l e R s m args below meth c H locs cells slots Q (F0 m (pc + 3) ls (.int z :: rest))) : W p l e R s m args below meth c H locs cells slots Q (F0 m pc ls (.ref (ad 74) :: rest)) := gy_gi (C := R_Mod) (T := F_Mod) (N := 37) (ci := 7) (fs := gf7 ad) (own := R_Mod) (ref := R_Mod) (index := 141) (j := 17) X.1.1 X.1.2.1 X.1.2.2.2.2 uin_Mod X.1.2.2.2.1 X.2.1 rfl (by decide) (X.1.2.2.2.2 _ (gWG_in (List.mem_append_right _ q517) rfl)) (fun _ h => h) (fun _ => rfl) hW (by omega) (fun σ τ => ge_7 rfl σ τ) hq hg hz hdg kk
theorem pf_Mod_141 {q : Nat × Nat × Nat} {z : Int32} (X : gcx g A p s m args c cc nL R_Mod) (hW : gW g A ad np u v H) (hS : va_S A s.heap H locs) (hq : gv np q) (hg : gi q = (74, 17)) (hn : narrow (.int) (.int z) = .int z) (hfit : fits (.int) (.int z) = true) (hdg : decode cc pc = .ok (.putfield 141, 3)) (kk : ∀ (H1 : Heap) (locs1 : List Loc), gW g A ad np (gx u v q z).1 (gx u v q z).2 H1 → va_S A s.heap H1 locs1 → W p l e R s m args below meth c H1 locs1 cells slots Q (F0 m (pc + 3) ls rest)) : W p l e R s m args below meth c H locs cells slots Q (F0 m pc ls (.int z :: .ref (ad 74) :: rest)) := gy_pi (C := R_Mod) (T := F_Mod) (N := 37) (ci := 7) (fs := gf7 ad) (own := R_Mod) (ref := R_Mod) (index := 141) (j := 17) (ty := .int) X.1.1 X.1.2.1 X.1.2.2.2.2 uin_Mod t_Mod t_Mod_ok n_Mod X.1.2.2.2.1 X.2.1 rfl (by decide) (X.1.2.2.2.2 _ (gWG_in (List.mem_append_right _ q517) rfl)) (fun _ h => h) rfl rfl (fun _ => (by show 17 < 37; decide)) (fun r x => rfl) hW hS (by omega) (fun σ τ => ge_7 rfl σ τ) hq hg hn hfit hdg kk
theorem gf_Mod_44 (X : gcx g A p s m args c cc nL R_Mod) (hW : gW g A ad np u v H) (hdg : decode cc pc = .ok (.getfield 44, 3)) (kk : W p l e R s m args below meth c H locs cells slots Q (F0 m (pc + 3) ls (.ref (ad (86)) :: rest))) : W p l e R s m args below meth c H locs cells slots Q (F0 m pc ls (.ref (ad 74) :: rest)) := gy_gr (t := 86) (C := R_Mod) (T := F_Mod) (N := 37) (ci := 7) (fs := gf7 ad) (own := R_Mod) (ref := R_Mod) (index := 44) (j := 18) X.1.1 X.1.2.1 X.1.2.2.2.2 uin_Mod X.1.2.2.2.1 X.2.1 rfl (by decide) (X.1.2.2.2.2 _ (gWG_in (List.mem_append_right _ q518) rfl)) (fun _ h => h) (fun _ => rfl) hW (by omega) (fun σ τ => ge_7 rfl σ τ) hdg kk
theorem gf_Mod_47 (X : gcx g A p s m args c cc nL R_Mod) (hW : gW g A ad np u v H) (hdg : decode cc pc = .ok (.getfield 47, 3)) (kk : W p l e R s m args below meth c H locs cells slots Q (F0 m (pc + 3) ls (.ref (ad (87)) :: rest))) : W p l e R s m args below meth c H locs cells slots Q (F0 m pc ls (.ref (ad 74) :: rest)) := gy_gr (t := 87) (C := R_Mod) (T := F_Mod) (N := 37) (ci := 7) (fs := gf7 ad) (own := R_Mod) (ref := R_Mod) (index := 47) (j := 19) X.1.1 X.1.2.1 X.1.2.2.2.2 uin_Mod X.1.2.2.2.1 X.2.1 rfl (by decide) (X.1.2.2.2.2 _ (gWG_in (List.mem_append_right _ q519) rfl)) (fun _ h => h) (fun _ => rfl) hW (by omega) (fun σ τ => ge_7 rfl σ τ) hdg kk
theorem gf_Mod_120 {q : Nat × Nat × Nat} {z : Int32} (X : gcx g A p s m args c cc nL R_Mod) (hW : gW g A ad np u v H) (hq : gv np q) (hg : gi q = (74, 20)) (hz : gr u v q = z) (hdg : decode cc pc = .ok (.getfield 120, 3)) (kk : W p l e R s m args below meth c H locs cells slots Q (F0 m (pc + 3) ls (.int z :: rest))) : W p l e R s m args below meth c H locs cells slots Q (F0 m pc ls (.ref (ad 74) :: rest)) := gy_gi (C := R_Mod) (T := F_Mod) (N := 37) (ci := 7) (fs := gf7 ad) (own := R_Mod) (ref := R_Mod) (index := 120) (j := 20) X.1.1 X.1.2.1 X.1.2.2.2.2 uin_Mod X.1.2.2.2.1 X.2.1 rfl (by decide) (X.1.2.2.2.2 _ (gWG_in (List.mem_append_right _ q520) rfl)) (fun _ h => h) (fun _ => rfl) hW (by omega) (fun σ τ => ge_7 rfl σ τ) hq hg hz hdg kk
theorem pf_Mod_120 {q : Nat × Nat × Nat} {z : Int32} (X : gcx g A p s m args c cc nL R_Mod) (hW : gW g A ad np u v H) (hS : va_S A s.heap H locs) (hq : gv np q) (hg : gi q = (74, 20)) (hn : narrow (.int) (.int z) = .int z) (hfit : fits (.int) (.int z) = true) (hdg : decode cc pc = .ok (.putfield 120, 3)) (kk : ∀ (H1 : Heap) (locs1 : List Loc), gW g A ad np (gx u v q z).1 (gx u v q z).2 H1 → va_S A s.heap H1 locs1 → W p l e R s m args below meth c H1 locs1 cells slots Q (F0 m (pc + 3) ls rest)) : W p l e R s m args below meth c H locs cells slots Q (F0 m pc ls (.int z :: .ref (ad 74) :: rest)) := gy_pi (C := R_Mod) (T := F_Mod) (N := 37) (ci := 7) (fs := gf7 ad) (own := R_Mod) (ref := R_Mod) (index := 120) (j := 20) (ty := .int) X.1.1 X.1.2.1 X.1.2.2.2.2 uin_Mod t_Mod t_Mod_ok n_Mod X.1.2.2.2.1 X.2.1 rfl (by decide) (X.1.2.2.2.2 _ (gWG_in (List.mem_append_right _ q520) rfl)) (fun _ h => h) rfl rfl (fun _ => (by show 20 < 37; decide)) (fun r x => rfl) hW hS (by omega) (fun σ τ => ge_7 rfl σ τ) hq hg hn hfit hdg kk
theorem gf_Mod_117 {q : Nat × Nat × Nat} {z : Int32} (X : gcx g A p s m args c cc nL R_Mod) (hW : gW g A ad np u v H) (hq : gv np q) (hg : gi q = (74, 21)) (hz : gr u v q = z) (hdg : decode cc pc = .ok (.getfield 117, 3)) (kk : W p l e R s m args below meth c H locs cells slots Q (F0 m (pc + 3) ls (.int z :: rest))) : W p l e R s m args below meth c H locs cells slots Q (F0 m pc ls (.ref (ad 74) :: rest)) := gy_gi (C := R_Mod) (T := F_Mod) (N := 37) (ci := 7) (fs := gf7 ad) (own := R_Mod) (ref := R_Mod) (index := 117) (j := 21) X.1.1 X.1.2.1 X.1.2.2.2.2 uin_Mod X.1.2.2.2.1 X.2.1 rfl (by decide) (X.1.2.2.2.2 _ (gWG_in (List.mem_append_right _ q521) rfl)) (fun _ h => h) (fun _ => rfl) hW (by omega) (fun σ τ => ge_7 rfl σ τ) hq hg hz hdg kk
theorem pf_Mod_117 {q : Nat × Nat × Nat} {z : Int32} (X : gcx g A p s m args c cc nL R_Mod) (hW : gW g A ad np u v H) (hS : va_S A s.heap H locs) (hq : gv np q) (hg : gi q = (74, 21)) (hn : narrow (.int) (.int z) = .int z) (hfit : fits (.int) (.int z) = true) (hdg : decode cc pc = .ok (.putfield 117, 3)) (kk : ∀ (H1 : Heap) (locs1 : List Loc), gW g A ad np (gx u v q z).1 (gx u v q z).2 H1 → va_S A s.heap H1 locs1 → W p l e R s m args below meth c H1 locs1 cells slots Q (F0 m (pc + 3) ls rest)) : W p l e R s m args below meth c H locs cells slots Q (F0 m pc ls (.int z :: .ref (ad 74) :: rest)) := gy_pi (C := R_Mod) (T := F_Mod) (N := 37) (ci := 7) (fs := gf7 ad) (own := R_Mod) (ref := R_Mod) (index := 117) (j := 21) (ty := .int) X.1.1 X.1.2.1 X.1.2.2.2.2 uin_Mod t_Mod t_Mod_ok n_Mod X.1.2.2.2.1 X.2.1 rfl (by decide) (X.1.2.2.2.2 _ (gWG_in (List.mem_append_right _ q521) rfl)) (fun _ h => h) rfl rfl (fun _ => (by show 21 < 37; decide)) (fun r x => rfl) hW hS (by omega) (fun σ τ => ge_7 rfl σ τ) hq hg hn hfit hdg kk
theorem gf_Mod_50 (X : gcx g A p s m args c cc nL R_Mod) (hW : gW g A ad np u v H) (hdg : decode cc pc = .ok (.getfield 50, 3)) (kk : W p l e R s m args below meth c H locs cells slots Q (F0 m (pc + 3) ls (.ref (ad (88)) :: rest))) : W p l e R s m args below meth c H locs cells slots Q (F0 m pc ls (.ref (ad 74) :: rest)) := gy_gr (t := 88) (C := R_Mod) (T := F_Mod) (N := 37) (ci := 7) (fs := gf7 ad) (own := R_Mod) (ref := R_Mod) (index := 50) (j := 22) X.1.1 X.1.2.1 X.1.2.2.2.2 uin_Mod X.1.2.2.2.1 X.2.1 rfl (by decide) (X.1.2.2.2.2 _ (gWG_in (List.mem_append_right _ q522) rfl)) (fun _ h => h) (fun _ => rfl) hW (by omega) (fun σ τ => ge_7 rfl σ τ) hdg kk
theorem gf_Mod_89 {q : Nat × Nat × Nat} {z : Int32} (X : gcx g A p s m args c cc nL R_Mod) (hW : gW g A ad np u v H) (hq : gv np q) (hg : gi q = (74, 23)) (hz : gr u v q = z) (hdg : decode cc pc = .ok (.getfield 89, 3)) (kk : W p l e R s m args below meth c H locs cells slots Q (F0 m (pc + 3) ls (.int z :: rest))) : W p l e R s m args below meth c H locs cells slots Q (F0 m pc ls (.ref (ad 74) :: rest)) := gy_gi (C := R_Mod) (T := F_Mod) (N := 37) (ci := 7) (fs := gf7 ad) (own := R_Mod) (ref := R_Mod) (index := 89) (j := 23) X.1.1 X.1.2.1 X.1.2.2.2.2 uin_Mod X.1.2.2.2.1 X.2.1 rfl (by decide) (X.1.2.2.2.2 _ (gWG_in (List.mem_append_right _ q523) rfl)) (fun _ h => h) (fun _ => rfl) hW (by omega) (fun σ τ => ge_7 rfl σ τ) hq hg hz hdg kk
theorem pf_Mod_89 {q : Nat × Nat × Nat} {z : Int32} (X : gcx g A p s m args c cc nL R_Mod) (hW : gW g A ad np u v H) (hS : va_S A s.heap H locs) (hq : gv np q) (hg : gi q = (74, 23)) (hn : narrow (.int) (.int z) = .int z) (hfit : fits (.int) (.int z) = true) (hdg : decode cc pc = .ok (.putfield 89, 3)) (kk : ∀ (H1 : Heap) (locs1 : List Loc), gW g A ad np (gx u v q z).1 (gx u v q z).2 H1 → va_S A s.heap H1 locs1 → W p l e R s m args below meth c H1 locs1 cells slots Q (F0 m (pc + 3) ls rest)) : W p l e R s m args below meth c H locs cells slots Q (F0 m pc ls (.int z :: .ref (ad 74) :: rest)) := gy_pi (C := R_Mod) (T := F_Mod) (N := 37) (ci := 7) (fs := gf7 ad) (own := R_Mod) (ref := R_Mod) (index := 89) (j := 23) (ty := .int) X.1.1 X.1.2.1 X.1.2.2.2.2 uin_Mod t_Mod t_Mod_ok n_Mod X.1.2.2.2.1 X.2.1 rfl (by decide) (X.1.2.2.2.2 _ (gWG_in (List.mem_append_right _ q523) rfl)) (fun _ h => h) rfl rfl (fun _ => (by show 23 < 37; decide)) (fun r x => rfl) hW hS (by omega) (fun σ τ => ge_7 rfl σ τ) hq hg hn hfit hdg kk
theorem gf_Mod_53 (X : gcx g A p s m args c cc nL R_Mod) (hW : gW g A ad np u v H) (hdg : decode cc pc = .ok (.getfield 53, 3)) (kk : W p l e R s m args below meth c H locs cells slots Q (F0 m (pc + 3) ls (.ref (ad (89)) :: rest))) : W p l e R s m args below meth c H locs cells slots Q (F0 m pc ls (.ref (ad 74) :: rest)) := gy_gr (t := 89) (C := R_Mod) (T := F_Mod) (N := 37) (ci := 7) (fs := gf7 ad) (own := R_Mod) (ref := R_Mod) (index := 53) (j := 24) X.1.1 X.1.2.1 X.1.2.2.2.2 uin_Mod X.1.2.2.2.1 X.2.1 rfl (by decide) (X.1.2.2.2.2 _ (gWG_in (List.mem_append_right _ q524) rfl)) (fun _ h => h) (fun _ => rfl) hW (by omega) (fun σ τ => ge_7 rfl σ τ) hdg kk
theorem gf_Mod_114 {q : Nat × Nat × Nat} {z : Int32} (X : gcx g A p s m args c cc nL R_Mod) (hW : gW g A ad np u v H) (hq : gv np q) (hg : gi q = (74, 25)) (hz : gr u v q = z) (hdg : decode cc pc = .ok (.getfield 114, 3)) (kk : W p l e R s m args below meth c H locs cells slots Q (F0 m (pc + 3) ls (.int z :: rest))) : W p l e R s m args below meth c H locs cells slots Q (F0 m pc ls (.ref (ad 74) :: rest)) := gy_gi (C := R_Mod) (T := F_Mod) (N := 37) (ci := 7) (fs := gf7 ad) (own := R_Mod) (ref := R_Mod) (index := 114) (j := 25) X.1.1 X.1.2.1 X.1.2.2.2.2 uin_Mod X.1.2.2.2.1 X.2.1 rfl (by decide) (X.1.2.2.2.2 _ (gWG_in (List.mem_append_right _ q525) rfl)) (fun _ h => h) (fun _ => rfl) hW (by omega) (fun σ τ => ge_7 rfl σ τ) hq hg hz hdg kk
theorem pf_Mod_114 {q : Nat × Nat × Nat} {z : Int32} (X : gcx g A p s m args c cc nL R_Mod) (hW : gW g A ad np u v H) (hS : va_S A s.heap H locs) (hq : gv np q) (hg : gi q = (74, 25)) (hn : narrow (.int) (.int z) = .int z) (hfit : fits (.int) (.int z) = true) (hdg : decode cc pc = .ok (.putfield 114, 3)) (kk : ∀ (H1 : Heap) (locs1 : List Loc), gW g A ad np (gx u v q z).1 (gx u v q z).2 H1 → va_S A s.heap H1 locs1 → W p l e R s m args below meth c H1 locs1 cells slots Q (F0 m (pc + 3) ls rest)) : W p l e R s m args below meth c H locs cells slots Q (F0 m pc ls (.int z :: .ref (ad 74) :: rest)) := gy_pi (C := R_Mod) (T := F_Mod) (N := 37) (ci := 7) (fs := gf7 ad) (own := R_Mod) (ref := R_Mod) (index := 114) (j := 25) (ty := .int) X.1.1 X.1.2.1 X.1.2.2.2.2 uin_Mod t_Mod t_Mod_ok n_Mod X.1.2.2.2.1 X.2.1 rfl (by decide) (X.1.2.2.2.2 _ (gWG_in (List.mem_append_right _ q525) rfl)) (fun _ h => h) rfl rfl (fun _ => (by show 25 < 37; decide)) (fun r x => rfl) hW hS (by omega) (fun σ τ => ge_7 rfl σ τ) hq hg hn hfit hdg kk
theorem gf_Mod_95 {q : Nat × Nat × Nat} {z : Int32} (X : gcx g A p s m args c cc nL R_Mod) (hW : gW g A ad np u v H) (hq : gv np q) (hg : gi q = (74, 26)) (hz : gr u v q = z) (hdg : decode cc pc = .ok (.getfield 95, 3)) (kk : W p l e R s m args below meth c H locs cells slots Q (F0 m (pc + 3) ls (.int z :: rest))) : W p l e R s m args below meth c H locs cells slots Q (F0 m pc ls (.ref (ad 74) :: rest)) := gy_gi (C := R_Mod) (T := F_Mod) (N := 37) (ci := 7) (fs := gf7 ad) (own := R_Mod) (ref := R_Mod) (index := 95) (j := 26) X.1.1 X.1.2.1 X.1.2.2.2.2 uin_Mod X.1.2.2.2.1 X.2.1 rfl (by decide) (X.1.2.2.2.2 _ (gWG_in (List.mem_append_right _ q526) rfl)) (fun _ h => h) (fun _ => rfl) hW (by omega) (fun σ τ => ge_7 rfl σ τ) hq hg hz hdg kk
theorem pf_Mod_95 {q : Nat × Nat × Nat} {z : Int32} (X : gcx g A p s m args c cc nL R_Mod) (hW : gW g A ad np u v H) (hS : va_S A s.heap H locs) (hq : gv np q) (hg : gi q = (74, 26)) (hn : narrow (.int) (.int z) = .int z) (hfit : fits (.int) (.int z) = true) (hdg : decode cc pc = .ok (.putfield 95, 3)) (kk : ∀ (H1 : Heap) (locs1 : List Loc), gW g A ad np (gx u v q z).1 (gx u v q z).2 H1 → va_S A s.heap H1 locs1 → W p l e R s m args below meth c H1 locs1 cells slots Q (F0 m (pc + 3) ls rest)) : W p l e R s m args below meth c H locs cells slots Q (F0 m pc ls (.int z :: .ref (ad 74) :: rest)) := gy_pi (C := R_Mod) (T := F_Mod) (N := 37) (ci := 7) (fs := gf7 ad) (own := R_Mod) (ref := R_Mod) (index := 95) (j := 26) (ty := .int) X.1.1 X.1.2.1 X.1.2.2.2.2 uin_Mod t_Mod t_Mod_ok n_Mod X.1.2.2.2.1 X.2.1 rfl (by decide) (X.1.2.2.2.2 _ (gWG_in (List.mem_append_right _ q526) rfl)) (fun _ h => h) rfl rfl (fun _ => (by show 26 < 37; decide)) (fun r x => rfl) hW hS (by omega) (fun σ τ => ge_7 rfl σ τ) hq hg hn hfit hdg kk
theorem gf_Mod_56 (X : gcx g A p s m args c cc nL R_Mod) (hW : gW g A ad np u v H) (hdg : decode cc pc = .ok (.getfield 56, 3)) (kk : W p l e R s m args below meth c H locs cells slots Q (F0 m (pc + 3) ls (.ref (ad (90)) :: rest))) : W p l e R s m args below meth c H locs cells slots Q (F0 m pc ls (.ref (ad 74) :: rest)) := gy_gr (t := 90) (C := R_Mod) (T := F_Mod) (N := 37) (ci := 7) (fs := gf7 ad) (own := R_Mod) (ref := R_Mod) (index := 56) (j := 27) X.1.1 X.1.2.1 X.1.2.2.2.2 uin_Mod X.1.2.2.2.1 X.2.1 rfl (by decide) (X.1.2.2.2.2 _ (gWG_in (List.mem_append_right _ q527) rfl)) (fun _ h => h) (fun _ => rfl) hW (by omega) (fun σ τ => ge_7 rfl σ τ) hdg kk
theorem gf_Mod_101 {q : Nat × Nat × Nat} {z : Int32} (X : gcx g A p s m args c cc nL R_Mod) (hW : gW g A ad np u v H) (hq : gv np q) (hg : gi q = (74, 28)) (hz : gr u v q = z) (hdg : decode cc pc = .ok (.getfield 101, 3)) (kk : W p l e R s m args below meth c H locs cells slots Q (F0 m (pc + 3) ls (.int z :: rest))) : W p l e R s m args below meth c H locs cells slots Q (F0 m pc ls (.ref (ad 74) :: rest)) := gy_gi (C := R_Mod) (T := F_Mod) (N := 37) (ci := 7) (fs := gf7 ad) (own := R_Mod) (ref := R_Mod) (index := 101) (j := 28) X.1.1 X.1.2.1 X.1.2.2.2.2 uin_Mod X.1.2.2.2.1 X.2.1 rfl (by decide) (X.1.2.2.2.2 _ (gWG_in (List.mem_append_right _ q528) rfl)) (fun _ h => h) (fun _ => rfl) hW (by omega) (fun σ τ => ge_7 rfl σ τ) hq hg hz hdg kk
theorem pf_Mod_101 {q : Nat × Nat × Nat} {z : Int32} (X : gcx g A p s m args c cc nL R_Mod) (hW : gW g A ad np u v H) (hS : va_S A s.heap H locs) (hq : gv np q) (hg : gi q = (74, 28)) (hn : narrow (.int) (.int z) = .int z) (hfit : fits (.int) (.int z) = true) (hdg : decode cc pc = .ok (.putfield 101, 3)) (kk : ∀ (H1 : Heap) (locs1 : List Loc), gW g A ad np (gx u v q z).1 (gx u v q z).2 H1 → va_S A s.heap H1 locs1 → W p l e R s m args below meth c H1 locs1 cells slots Q (F0 m (pc + 3) ls rest)) : W p l e R s m args below meth c H locs cells slots Q (F0 m pc ls (.int z :: .ref (ad 74) :: rest)) := gy_pi (C := R_Mod) (T := F_Mod) (N := 37) (ci := 7) (fs := gf7 ad) (own := R_Mod) (ref := R_Mod) (index := 101) (j := 28) (ty := .int) X.1.1 X.1.2.1 X.1.2.2.2.2 uin_Mod t_Mod t_Mod_ok n_Mod X.1.2.2.2.1 X.2.1 rfl (by decide) (X.1.2.2.2.2 _ (gWG_in (List.mem_append_right _ q528) rfl)) (fun _ h => h) rfl rfl (fun _ => (by show 28 < 37; decide)) (fun r x => rfl) hW hS (by omega) (fun σ τ => ge_7 rfl σ τ) hq hg hn hfit hdg kk
theorem gf_Mod_147 {q : Nat × Nat × Nat} {z : Int32} (X : gcx g A p s m args c cc nL R_Mod) (hW : gW g A ad np u v H) (hq : gv np q) (hg : gi q = (74, 29)) (hz : gr u v q = z) (hdg : decode cc pc = .ok (.getfield 147, 3)) (kk : W p l e R s m args below meth c H locs cells slots Q (F0 m (pc + 3) ls (.int z :: rest))) : W p l e R s m args below meth c H locs cells slots Q (F0 m pc ls (.ref (ad 74) :: rest)) := gy_gi (C := R_Mod) (T := F_Mod) (N := 37) (ci := 7) (fs := gf7 ad) (own := R_Mod) (ref := R_Mod) (index := 147) (j := 29) X.1.1 X.1.2.1 X.1.2.2.2.2 uin_Mod X.1.2.2.2.1 X.2.1 rfl (by decide) (X.1.2.2.2.2 _ (gWG_in (List.mem_append_right _ q529) rfl)) (fun _ h => h) (fun _ => rfl) hW (by omega) (fun σ τ => ge_7 rfl σ τ) hq hg hz hdg kk
theorem pf_Mod_147 {q : Nat × Nat × Nat} {z : Int32} (X : gcx g A p s m args c cc nL R_Mod) (hW : gW g A ad np u v H) (hS : va_S A s.heap H locs) (hq : gv np q) (hg : gi q = (74, 29)) (hn : narrow (.int) (.int z) = .int z) (hfit : fits (.int) (.int z) = true) (hdg : decode cc pc = .ok (.putfield 147, 3)) (kk : ∀ (H1 : Heap) (locs1 : List Loc), gW g A ad np (gx u v q z).1 (gx u v q z).2 H1 → va_S A s.heap H1 locs1 → W p l e R s m args below meth c H1 locs1 cells slots Q (F0 m (pc + 3) ls rest)) : W p l e R s m args below meth c H locs cells slots Q (F0 m pc ls (.int z :: .ref (ad 74) :: rest)) := gy_pi (C := R_Mod) (T := F_Mod) (N := 37) (ci := 7) (fs := gf7 ad) (own := R_Mod) (ref := R_Mod) (index := 147) (j := 29) (ty := .int) X.1.1 X.1.2.1 X.1.2.2.2.2 uin_Mod t_Mod t_Mod_ok n_Mod X.1.2.2.2.1 X.2.1 rfl (by decide) (X.1.2.2.2.2 _ (gWG_in (List.mem_append_right _ q529) rfl)) (fun _ h => h) rfl rfl (fun _ => (by show 29 < 37; decide)) (fun r x => rfl) hW hS (by omega) (fun σ τ => ge_7 rfl σ τ) hq hg hn hfit hdg kk
theorem gf_Mod_150 {q : Nat × Nat × Nat} {z : Int32} (X : gcx g A p s m args c cc nL R_Mod) (hW : gW g A ad np u v H) (hq : gv np q) (hg : gi q = (74, 30)) (hz : gr u v q = z) (hdg : decode cc pc = .ok (.getfield 150, 3)) (kk : W p l e R s m args below meth c H locs cells slots Q (F0 m (pc + 3) ls (.int z :: rest))) : W p l e R s m args below meth c H locs cells slots Q (F0 m pc ls (.ref (ad 74) :: rest)) := gy_gi (C := R_Mod) (T := F_Mod) (N := 37) (ci := 7) (fs := gf7 ad) (own := R_Mod) (ref := R_Mod) (index := 150) (j := 30) X.1.1 X.1.2.1 X.1.2.2.2.2 uin_Mod X.1.2.2.2.1 X.2.1 rfl (by decide) (X.1.2.2.2.2 _ (gWG_in (List.mem_append_right _ q530) rfl)) (fun _ h => h) (fun _ => rfl) hW (by omega) (fun σ τ => ge_7 rfl σ τ) hq hg hz hdg kk
theorem pf_Mod_150 {q : Nat × Nat × Nat} {z : Int32} (X : gcx g A p s m args c cc nL R_Mod) (hW : gW g A ad np u v H) (hS : va_S A s.heap H locs) (hq : gv np q) (hg : gi q = (74, 30)) (hn : narrow (.int) (.int z) = .int z) (hfit : fits (.int) (.int z) = true) (hdg : decode cc pc = .ok (.putfield 150, 3)) (kk : ∀ (H1 : Heap) (locs1 : List Loc), gW g A ad np (gx u v q z).1 (gx u v q z).2 H1 → va_S A s.heap H1 locs1 → W p l e R s m args below meth c H1 locs1 cells slots Q (F0 m (pc + 3) ls rest)) : W p l e R s m args below meth c H locs cells slots Q (F0 m pc ls (.int z :: .ref (ad 74) :: rest)) := gy_pi (C := R_Mod) (T := F_Mod) (N := 37) (ci := 7) (fs := gf7 ad) (own := R_Mod) (ref := R_Mod) (index := 150) (j := 30) (ty := .int) X.1.1 X.1.2.1 X.1.2.2.2.2 uin_Mod t_Mod t_Mod_ok n_Mod X.1.2.2.2.1 X.2.1 rfl (by decide) (X.1.2.2.2.2 _ (gWG_in (List.mem_append_right _ q530) rfl)) (fun _ h => h) rfl rfl (fun _ => (by show 30 < 37; decide)) (fun r x => rfl) hW hS (by omega) (fun σ τ => ge_7 rfl σ τ) hq hg hn hfit hdg kk
theorem gf_Mod_153 {q : Nat × Nat × Nat} {z : Int32} (X : gcx g A p s m args c cc nL R_Mod) (hW : gW g A ad np u v H) (hq : gv np q) (hg : gi q = (74, 31)) (hz : gr u v q = z) (hdg : decode cc pc = .ok (.getfield 153, 3)) (kk : W p l e R s m args below meth c H locs cells slots Q (F0 m (pc + 3) ls (.int z :: rest))) : W p l e R s m args below meth c H locs cells slots Q (F0 m pc ls (.ref (ad 74) :: rest)) := gy_gi (C := R_Mod) (T := F_Mod) (N := 37) (ci := 7) (fs := gf7 ad) (own := R_Mod) (ref := R_Mod) (index := 153) (j := 31) X.1.1 X.1.2.1 X.1.2.2.2.2 uin_Mod X.1.2.2.2.1 X.2.1 rfl (by decide) (X.1.2.2.2.2 _ (gWG_in (List.mem_append_right _ q531) rfl)) (fun _ h => h) (fun _ => rfl) hW (by omega) (fun σ τ => ge_7 rfl σ τ) hq hg hz hdg kk
theorem pf_Mod_153 {q : Nat × Nat × Nat} {z : Int32} (X : gcx g A p s m args c cc nL R_Mod) (hW : gW g A ad np u v H) (hS : va_S A s.heap H locs) (hq : gv np q) (hg : gi q = (74, 31)) (hn : narrow (.int) (.int z) = .int z) (hfit : fits (.int) (.int z) = true) (hdg : decode cc pc = .ok (.putfield 153, 3)) (kk : ∀ (H1 : Heap) (locs1 : List Loc), gW g A ad np (gx u v q z).1 (gx u v q z).2 H1 → va_S A s.heap H1 locs1 → W p l e R s m args below meth c H1 locs1 cells slots Q (F0 m (pc + 3) ls rest)) : W p l e R s m args below meth c H locs cells slots Q (F0 m pc ls (.int z :: .ref (ad 74) :: rest)) := gy_pi (C := R_Mod) (T := F_Mod) (N := 37) (ci := 7) (fs := gf7 ad) (own := R_Mod) (ref := R_Mod) (index := 153) (j := 31) (ty := .int) X.1.1 X.1.2.1 X.1.2.2.2.2 uin_Mod t_Mod t_Mod_ok n_Mod X.1.2.2.2.1 X.2.1 rfl (by decide) (X.1.2.2.2.2 _ (gWG_in (List.mem_append_right _ q531) rfl)) (fun _ h => h) rfl rfl (fun _ => (by show 31 < 37; decide)) (fun r x => rfl) hW hS (by omega) (fun σ τ => ge_7 rfl σ τ) hq hg hn hfit hdg kk
theorem gf_Mod_156 {q : Nat × Nat × Nat} {z : Int32} (X : gcx g A p s m args c cc nL R_Mod) (hW : gW g A ad np u v H) (hq : gv np q) (hg : gi q = (74, 32)) (hz : gr u v q = z) (hdg : decode cc pc = .ok (.getfield 156, 3)) (kk : W p l e R s m args below meth c H locs cells slots Q (F0 m (pc + 3) ls (.int z :: rest))) : W p l e R s m args below meth c H locs cells slots Q (F0 m pc ls (.ref (ad 74) :: rest)) := gy_gi (C := R_Mod) (T := F_Mod) (N := 37) (ci := 7) (fs := gf7 ad) (own := R_Mod) (ref := R_Mod) (index := 156) (j := 32) X.1.1 X.1.2.1 X.1.2.2.2.2 uin_Mod X.1.2.2.2.1 X.2.1 rfl (by decide) (X.1.2.2.2.2 _ (gWG_in (List.mem_append_right _ q532) rfl)) (fun _ h => h) (fun _ => rfl) hW (by omega) (fun σ τ => ge_7 rfl σ τ) hq hg hz hdg kk
theorem pf_Mod_156 {q : Nat × Nat × Nat} {z : Int32} (X : gcx g A p s m args c cc nL R_Mod) (hW : gW g A ad np u v H) (hS : va_S A s.heap H locs) (hq : gv np q) (hg : gi q = (74, 32)) (hn : narrow (.int) (.int z) = .int z) (hfit : fits (.int) (.int z) = true) (hdg : decode cc pc = .ok (.putfield 156, 3)) (kk : ∀ (H1 : Heap) (locs1 : List Loc), gW g A ad np (gx u v q z).1 (gx u v q z).2 H1 → va_S A s.heap H1 locs1 → W p l e R s m args below meth c H1 locs1 cells slots Q (F0 m (pc + 3) ls rest)) : W p l e R s m args below meth c H locs cells slots Q (F0 m pc ls (.int z :: .ref (ad 74) :: rest)) := gy_pi (C := R_Mod) (T := F_Mod) (N := 37) (ci := 7) (fs := gf7 ad) (own := R_Mod) (ref := R_Mod) (index := 156) (j := 32) (ty := .int) X.1.1 X.1.2.1 X.1.2.2.2.2 uin_Mod t_Mod t_Mod_ok n_Mod X.1.2.2.2.1 X.2.1 rfl (by decide) (X.1.2.2.2.2 _ (gWG_in (List.mem_append_right _ q532) rfl)) (fun _ h => h) rfl rfl (fun _ => (by show 32 < 37; decide)) (fun r x => rfl) hW hS (by omega) (fun σ τ => ge_7 rfl σ τ) hq hg hn hfit hdg kk
theorem gf_Mod_138 {q : Nat × Nat × Nat} {z : Int32} (X : gcx g A p s m args c cc nL R_Mod) (hW : gW g A ad np u v H) (hq : gv np q) (hg : gi q = (74, 33)) (hz : gr u v q = z) (hdg : decode cc pc = .ok (.getfield 138, 3)) (kk : W p l e R s m args below meth c H locs cells slots Q (F0 m (pc + 3) ls (.int z :: rest))) : W p l e R s m args below meth c H locs cells slots Q (F0 m pc ls (.ref (ad 74) :: rest)) := gy_gi (C := R_Mod) (T := F_Mod) (N := 37) (ci := 7) (fs := gf7 ad) (own := R_Mod) (ref := R_Mod) (index := 138) (j := 33) X.1.1 X.1.2.1 X.1.2.2.2.2 uin_Mod X.1.2.2.2.1 X.2.1 rfl (by decide) (X.1.2.2.2.2 _ (gWG_in (List.mem_append_right _ q533) rfl)) (fun _ h => h) (fun _ => rfl) hW (by omega) (fun σ τ => ge_7 rfl σ τ) hq hg hz hdg kk
theorem pf_Mod_138 {q : Nat × Nat × Nat} {z : Int32} (X : gcx g A p s m args c cc nL R_Mod) (hW : gW g A ad np u v H) (hS : va_S A s.heap H locs) (hq : gv np q) (hg : gi q = (74, 33)) (hn : narrow (.int) (.int z) = .int z) (hfit : fits (.int) (.int z) = true) (hdg : decode cc pc = .ok (.putfield 138, 3)) (kk : ∀ (H1 : Heap) (locs1 : List Loc), gW g A ad np (gx u v q z).1 (gx u v q z).2 H1 → va_S A s.heap H1 locs1 → W p l e R s m args below meth c H1 locs1 cells slots Q (F0 m (pc + 3) ls rest)) : W p l e R s m args below meth c H locs cells slots Q (F0 m pc ls (.int z :: .ref (ad 74) :: rest)) := gy_pi (C := R_Mod) (T := F_Mod) (N := 37) (ci := 7) (fs := gf7 ad) (own := R_Mod) (ref := R_Mod) (index := 138) (j := 33) (ty := .int) X.1.1 X.1.2.1 X.1.2.2.2.2 uin_Mod t_Mod t_Mod_ok n_Mod X.1.2.2.2.1 X.2.1 rfl (by decide) (X.1.2.2.2.2 _ (gWG_in (List.mem_append_right _ q533) rfl)) (fun _ h => h) rfl rfl (fun _ => (by show 33 < 37; decide)) (fun r x => rfl) hW hS (by omega) (fun σ τ => ge_7 rfl σ τ) hq hg hn hfit hdg kk
theorem gf_Mod_59 (X : gcx g A p s m args c cc nL R_Mod) (hW : gW g A ad np u v H) (hdg : decode cc pc = .ok (.getfield 59, 3)) (kk : W p l e R s m args below meth c H locs cells slots Q (F0 m (pc + 3) ls (.ref (ad (91)) :: rest))) : W p l e R s m args below meth c H locs cells slots Q (F0 m pc ls (.ref (ad 74) :: rest)) := gy_gr (t := 91) (C := R_Mod) (T := F_Mod) (N := 37) (ci := 7) (fs := gf7 ad) (own := R_Mod) (ref := R_Mod) (index := 59) (j := 34) X.1.1 X.1.2.1 X.1.2.2.2.2 uin_Mod X.1.2.2.2.1 X.2.1 rfl (by decide) (X.1.2.2.2.2 _ (gWG_in (List.mem_append_right _ q534) rfl)) (fun _ h => h) (fun _ => rfl) hW (by omega) (fun σ τ => ge_7 rfl σ τ) hdg kk
theorem gf_Mod_62 (X : gcx g A p s m args c cc nL R_Mod) (hW : gW g A ad np u v H) (hdg : decode cc pc = .ok (.getfield 62, 3)) (kk : W p l e R s m args below meth c H locs cells slots Q (F0 m (pc + 3) ls (.ref (ad (92)) :: rest))) : W p l e R s m args below meth c H locs cells slots Q (F0 m pc ls (.ref (ad 74) :: rest)) := gy_gr (t := 92) (C := R_Mod) (T := F_Mod) (N := 37) (ci := 7) (fs := gf7 ad) (own := R_Mod) (ref := R_Mod) (index := 62) (j := 35) X.1.1 X.1.2.1 X.1.2.2.2.2 uin_Mod X.1.2.2.2.1 X.2.1 rfl (by decide) (X.1.2.2.2.2 _ (gWG_in (List.mem_append_right _ q535) rfl)) (fun _ h => h) (fun _ => rfl) hW (by omega) (fun σ τ => ge_7 rfl σ τ) hdg kk
theorem gf_Mod_66 (X : gcx g A p s m args c cc nL R_Mod) (hW : gW g A ad np u v H) (hdg : decode cc pc = .ok (.getfield 66, 3)) (kk : W p l e R s m args below meth c H locs cells slots Q (F0 m (pc + 3) ls (.ref (ad (93)) :: rest))) : W p l e R s m args below meth c H locs cells slots Q (F0 m pc ls (.ref (ad 74) :: rest)) := gy_gr (t := 93) (C := R_Mod) (T := F_Mod) (N := 37) (ci := 7) (fs := gf7 ad) (own := R_Mod) (ref := R_Mod) (index := 66) (j := 36) X.1.1 X.1.2.1 X.1.2.2.2.2 uin_Mod X.1.2.2.2.1 X.2.1 rfl (by decide) (X.1.2.2.2.2 _ (gWG_in (List.mem_append_right _ q536) rfl)) (fun _ h => h) (fun _ => rfl) hW (by omega) (fun σ τ => ge_7 rfl σ τ) hdg kk
end GLK
theorem cw_PG_38 : gwV R_PG 38 y_Web_addPage b_Web_addPage 3 (some .int) 2 := ⟨gWG_in (List.mem_append_right _ q201) rfl, gWG_in (List.mem_append_right _ q202) rfl, gWG_in (List.mem_append_right _ q203) rfl, gWG_in (List.mem_append_right _ q2) rfl, gWG_in (List.mem_append_right _ q204) rfl, ⟨by decide, by decide, by decide +kernel⟩⟩
theorem cw_Web_37 : gwSN R_Web 37 y_PG_isHost "PoliteGatherer" b_PG_isHost 1 (some .boolean) 1 := ⟨gN_in (List.mem_append_right _ q205) rfl, gWG_in (List.mem_append_right _ q206) rfl, gWG_in (List.mem_append_right _ q1) rfl, gWG_in (List.mem_append_right _ q207) rfl, ⟨by decide, by decide, by decide +kernel⟩⟩
theorem cw_PG_46 : gwS R_PG 46 y_PG_isWithin b_PG_isWithin 3 (some .boolean) 3 := ⟨gWG_in (List.mem_append_right _ q208) rfl, gWG_in (List.mem_append_right _ q209) rfl, gWG_in (List.mem_append_right _ q1) rfl, gWG_in (List.mem_append_right _ q210) rfl, ⟨by decide, by decide, by decide +kernel⟩⟩
theorem cw_Web_42 : gwSN R_Web 42 y_PG_isWithin "PoliteGatherer" b_PG_isWithin 3 (some .boolean) 3 := ⟨gN_in (List.mem_append_right _ q212) rfl, gWG_in (List.mem_append_right _ q209) rfl, gWG_in (List.mem_append_right _ q1) rfl, gWG_in (List.mem_append_right _ q210) rfl, ⟨by decide, by decide, by decide +kernel⟩⟩
theorem cw_Web_46 : gwV R_Web 46 y_Web_isTaken b_Web_isTaken 4 (some .boolean) 2 := ⟨gWG_in (List.mem_append_right _ q213) rfl, gWG_in (List.mem_append_right _ q215) rfl, gWG_in (List.mem_append_left _ (List.mem_map.mpr ⟨(⟨"PoliteGatherer$Web", "isTaken", "(II)Z"⟩, 4), by decide +kernel, rfl⟩)) rfl, gWG_in (List.mem_append_right _ q2) rfl, gWG_in (List.mem_append_right _ q216) rfl, ⟨by decide, by decide, by decide +kernel⟩⟩
theorem cw_PG_42 : gwV R_PG 42 y_PG_canChange b_PG_canChange 2 (some .boolean) 1 := ⟨gWG_in (List.mem_append_right _ q261) rfl, gWG_in (List.mem_append_right _ q263) rfl, gWG_in (List.mem_append_left _ (List.mem_map.mpr ⟨(⟨"PoliteGatherer", "canChange", "(I)Z"⟩, 4), by decide +kernel, rfl⟩)) rfl, gWG_in (List.mem_append_right _ q1) rfl, gWG_in (List.mem_append_right _ q264) rfl, ⟨by decide, by decide, by decide +kernel⟩⟩
theorem cw_PG_65 : gwV R_PG 65 y_Web_isPage b_Web_isPage 2 (some .boolean) 1 := ⟨gWG_in (List.mem_append_right _ q265) rfl, gWG_in (List.mem_append_right _ q266) rfl, gWG_in (List.mem_append_right _ q267) rfl, gWG_in (List.mem_append_right _ q2) rfl, gWG_in (List.mem_append_right _ q268) rfl, ⟨by decide, by decide, by decide +kernel⟩⟩
theorem cw_PG_60 : gwV R_PG 60 y_Row_add b_Row_add 2 (some .boolean) 1 := ⟨gWG_in (List.mem_append_right _ q269) rfl, gWG_in (List.mem_append_right _ q270) rfl, gWG_in (List.mem_append_right _ q271) rfl, gWG_in (List.mem_append_right _ q4) rfl, gWG_in (List.mem_append_right _ q272) rfl, ⟨by decide, by decide, by decide +kernel⟩⟩
theorem cw_PG_87 : gwS R_PG 87 y_PG_isHost b_PG_isHost 1 (some .boolean) 1 := ⟨gWG_in (List.mem_append_right _ q293) rfl, gWG_in (List.mem_append_right _ q206) rfl, gWG_in (List.mem_append_right _ q1) rfl, gWG_in (List.mem_append_right _ q207) rfl, ⟨by decide, by decide, by decide +kernel⟩⟩
theorem cw_PG_95 : gwV R_PG 95 y_Host_addRule b_Host_addRule 3 (some .boolean) 2 := ⟨gWG_in (List.mem_append_right _ q295) rfl, gWG_in (List.mem_append_right _ q296) rfl, gWG_in (List.mem_append_right _ q297) rfl, gWG_in (List.mem_append_right _ q3) rfl, gWG_in (List.mem_append_right _ q298) rfl, ⟨by decide, by decide, by decide +kernel⟩⟩
theorem cw_PG_107 : gwV R_PG 107 y_Gat_startAnew b_Gat_startAnew 5 none 4 := ⟨gWG_in (List.mem_append_right _ q307) rfl, gWG_in (List.mem_append_right _ q308) rfl, gWG_in (List.mem_append_right _ q309) rfl, gWG_in (List.mem_append_right _ q5) rfl, gWG_in (List.mem_append_right _ q310) rfl, ⟨by decide, by decide, by decide +kernel⟩⟩
theorem cw_Gat_50 : gwV R_Gat 50 y_Row_cutTo b_Row_cutTo 2 none 1 := ⟨gWG_in (List.mem_append_right _ q311) rfl, gWG_in (List.mem_append_right _ q312) rfl, gWG_in (List.mem_append_right _ q313) rfl, gWG_in (List.mem_append_right _ q4) rfl, gWG_in (List.mem_append_right _ q314) rfl, ⟨by decide, by decide, by decide +kernel⟩⟩
theorem cw_Gat_62 : gwV R_Gat 62 y_Gat_setAllFrom b_Gat_setAllFrom 3 none 1 := ⟨gWG_in (List.mem_append_right _ q318) rfl, gWG_in (List.mem_append_right _ q320) rfl, gWG_in (List.mem_append_left _ (List.mem_map.mpr ⟨(⟨"PoliteGatherer$Gathering", "setAllFrom", "(I)V"⟩, 17), by decide +kernel, rfl⟩)) rfl, gWG_in (List.mem_append_right _ q5) rfl, gWG_in (List.mem_append_right _ q321) rfl, ⟨by decide, by decide, by decide +kernel⟩⟩
theorem cw_Gat_70 : gwV R_Gat 70 y_Gat_enqueueAll b_Gat_enqueueAll 5 none 2 := ⟨gWG_in (List.mem_append_right _ q322) rfl, gWG_in (List.mem_append_right _ q324) rfl, gWG_in (List.mem_append_left _ (List.mem_map.mpr ⟨(⟨"PoliteGatherer$Gathering", "enqueueAll", "(LPoliteGatherer$Row;I)V"⟩, 17), by decide +kernel, rfl⟩)) rfl, gWG_in (List.mem_append_right _ q5) rfl, gWG_in (List.mem_append_right _ q325) rfl, ⟨by decide, by decide, by decide +kernel⟩⟩
theorem cw_Gat_80 : gwV R_Gat 80 y_Row_at b_Row_at 2 (some .int) 1 := ⟨gWG_in (List.mem_append_right _ q326) rfl, gWG_in (List.mem_append_right _ q327) rfl, gWG_in (List.mem_append_right _ q328) rfl, gWG_in (List.mem_append_right _ q4) rfl, gWG_in (List.mem_append_right _ q329) rfl, ⟨by decide, by decide, by decide +kernel⟩⟩
theorem cw_Gat_88 : gwV R_Gat 88 y_Row_holds b_Row_holds 3 (some .boolean) 1 := ⟨gWG_in (List.mem_append_right _ q330) rfl, gWG_in (List.mem_append_right _ q331) rfl, gWG_in (List.mem_append_right _ q332) rfl, gWG_in (List.mem_append_right _ q4) rfl, gWG_in (List.mem_append_right _ q333) rfl, ⟨by decide, by decide, by decide +kernel⟩⟩
theorem cw_Gat_92 : gwV R_Gat 92 y_Row_add b_Row_add 2 (some .boolean) 1 := ⟨gWG_in (List.mem_append_right _ q334) rfl, gWG_in (List.mem_append_right _ q270) rfl, gWG_in (List.mem_append_right _ q271) rfl, gWG_in (List.mem_append_right _ q4) rfl, gWG_in (List.mem_append_right _ q272) rfl, ⟨by decide, by decide, by decide +kernel⟩⟩
theorem cw_Gat_74 : gwV R_Gat 74 y_Gat_setMark b_Gat_setMark 1 none 0 := ⟨gWG_in (List.mem_append_right _ q335) rfl, gWG_in (List.mem_append_right _ q337) rfl, gWG_in (List.mem_append_left _ (List.mem_map.mpr ⟨(⟨"PoliteGatherer$Gathering", "setMark", "()V"⟩, 17), by decide +kernel, rfl⟩)) rfl, gWG_in (List.mem_append_right _ q5) rfl, gWG_in (List.mem_append_right _ q338) rfl, ⟨by decide, by decide, by decide +kernel⟩⟩
theorem cw_PG_114 : gwV R_PG 114 y_Gat_entriesLeft b_Gat_entriesLeft 1 (some .int) 0 := ⟨gWG_in (List.mem_append_right _ q347) rfl, gWG_in (List.mem_append_right _ q348) rfl, gWG_in (List.mem_append_right _ q349) rfl, gWG_in (List.mem_append_right _ q5) rfl, gWG_in (List.mem_append_right _ q350) rfl, ⟨by decide, by decide, by decide +kernel⟩⟩
theorem cw_PG_118 : gwV R_PG 118 y_Gat_handleEntry b_Gat_handleEntry 4 none 0 := ⟨gWG_in (List.mem_append_right _ q351) rfl, gWG_in (List.mem_append_right _ q352) rfl, gWG_in (List.mem_append_right _ q353) rfl, gWG_in (List.mem_append_right _ q5) rfl, gWG_in (List.mem_append_right _ q354) rfl, ⟨by decide, by decide, by decide +kernel⟩⟩
theorem cw_Gat_84 : gwV R_Gat 84 y_Gat_chase b_Gat_chase 6 (some .int) 2 := ⟨gWG_in (List.mem_append_right _ q355) rfl, gWG_in (List.mem_append_right _ q356) rfl, gWG_in (List.mem_append_right _ q357) rfl, gWG_in (List.mem_append_right _ q5) rfl, gWG_in (List.mem_append_right _ q358) rfl, ⟨by decide, by decide, by decide +kernel⟩⟩
theorem cw_Gat_107 : gwV R_Gat 107 y_Web_isAllowed b_Web_isAllowed 2 (some .boolean) 1 := ⟨gWG_in (List.mem_append_right _ q359) rfl, gWG_in (List.mem_append_right _ q360) rfl, gWG_in (List.mem_append_right _ q361) rfl, gWG_in (List.mem_append_right _ q2) rfl, gWG_in (List.mem_append_right _ q362) rfl, ⟨by decide, by decide, by decide +kernel⟩⟩
theorem cw_Web_59 : gwV R_Web 59 y_Host_allowsPath b_Host_allowsPath 6 (some .boolean) 1 := ⟨gWG_in (List.mem_append_right _ q363) rfl, gWG_in (List.mem_append_right _ q364) rfl, gWG_in (List.mem_append_right _ q365) rfl, gWG_in (List.mem_append_right _ q3) rfl, gWG_in (List.mem_append_right _ q366) rfl, ⟨by decide, by decide, by decide +kernel⟩⟩
theorem cw_Host_23 : gwS R_Host 23 y_Host_isPrefix b_Host_isPrefix 3 (some .boolean) 2 := ⟨gWG_in (List.mem_append_right _ q367) rfl, gWG_in (List.mem_append_right _ q368) rfl, gWG_in (List.mem_append_right _ q3) rfl, gWG_in (List.mem_append_right _ q369) rfl, ⟨by decide, by decide, by decide +kernel⟩⟩
theorem cw_Gat_110 : gwV R_Gat 110 y_Gat_fetch b_Gat_fetch 4 none 1 := ⟨gWG_in (List.mem_append_right _ q370) rfl, gWG_in (List.mem_append_right _ q372) rfl, gWG_in (List.mem_append_left _ (List.mem_map.mpr ⟨(⟨"PoliteGatherer$Gathering", "fetch", "(I)V"⟩, 17), by decide +kernel, rfl⟩)) rfl, gWG_in (List.mem_append_right _ q5) rfl, gWG_in (List.mem_append_right _ q373) rfl, ⟨by decide, by decide, by decide +kernel⟩⟩
theorem cw_PG_121 : gwV R_PG 121 y_Gat_fallBack b_Gat_fallBack 2 (some .int) 0 := ⟨gWG_in (List.mem_append_right _ q383) rfl, gWG_in (List.mem_append_right _ q384) rfl, gWG_in (List.mem_append_right _ q385) rfl, gWG_in (List.mem_append_right _ q5) rfl, gWG_in (List.mem_append_right _ q386) rfl, ⟨by decide, by decide, by decide +kernel⟩⟩
theorem cw_PG_124 : gwV R_PG 124 y_Web_isAllowed b_Web_isAllowed 2 (some .boolean) 1 := ⟨gWG_in (List.mem_append_right _ q391) rfl, gWG_in (List.mem_append_right _ q360) rfl, gWG_in (List.mem_append_right _ q361) rfl, gWG_in (List.mem_append_right _ q2) rfl, gWG_in (List.mem_append_right _ q362) rfl, ⟨by decide, by decide, by decide +kernel⟩⟩
theorem cw_PG_127 : gwV R_PG 127 y_Gat_chase b_Gat_chase 6 (some .int) 2 := ⟨gWG_in (List.mem_append_right _ q396) rfl, gWG_in (List.mem_append_right _ q356) rfl, gWG_in (List.mem_append_right _ q357) rfl, gWG_in (List.mem_append_right _ q5) rfl, gWG_in (List.mem_append_right _ q358) rfl, ⟨by decide, by decide, by decide +kernel⟩⟩
theorem cw_PG_137 : gwV R_PG 137 y_Row_at b_Row_at 2 (some .int) 1 := ⟨gWG_in (List.mem_append_right _ q413) rfl, gWG_in (List.mem_append_right _ q327) rfl, gWG_in (List.mem_append_right _ q328) rfl, gWG_in (List.mem_append_right _ q4) rfl, gWG_in (List.mem_append_right _ q329) rfl, ⟨by decide, by decide, by decide +kernel⟩⟩
theorem cw_PG_141 : gwV R_PG 141 y_Rank_documentOf b_Rank_documentOf 5 (some .int) 1 := ⟨gWG_in (List.mem_append_right _ q418) rfl, gWG_in (List.mem_append_right _ q419) rfl, gWG_in (List.mem_append_right _ q420) rfl, gWG_in (List.mem_append_right _ q6) rfl, gWG_in (List.mem_append_right _ q421) rfl, ⟨by decide, by decide, by decide +kernel⟩⟩
theorem cw_Rank_52 : gwV R_Rank 52 y_Row_holds b_Row_holds 3 (some .boolean) 1 := ⟨gWG_in (List.mem_append_right _ q422) rfl, gWG_in (List.mem_append_right _ q331) rfl, gWG_in (List.mem_append_right _ q332) rfl, gWG_in (List.mem_append_right _ q4) rfl, gWG_in (List.mem_append_right _ q333) rfl, ⟨by decide, by decide, by decide +kernel⟩⟩
theorem cw_Rank_71 : gwV R_Rank 71 y_Row_at b_Row_at 2 (some .int) 1 := ⟨gWG_in (List.mem_append_right _ q423) rfl, gWG_in (List.mem_append_right _ q327) rfl, gWG_in (List.mem_append_right _ q328) rfl, gWG_in (List.mem_append_right _ q4) rfl, gWG_in (List.mem_append_right _ q329) rfl, ⟨by decide, by decide, by decide +kernel⟩⟩
theorem cw_Rank_75 : gwV R_Rank 75 y_Row_sameAs b_Row_sameAs 3 (some .boolean) 1 := ⟨gWG_in (List.mem_append_right _ q424) rfl, gWG_in (List.mem_append_right _ q425) rfl, gWG_in (List.mem_append_right _ q426) rfl, gWG_in (List.mem_append_right _ q4) rfl, gWG_in (List.mem_append_right _ q427) rfl, ⟨by decide, by decide, by decide +kernel⟩⟩
theorem cw_PG_144 : gwV R_PG 144 y_Rank_isDocument b_Rank_isDocument 2 (some .boolean) 1 := ⟨gWG_in (List.mem_append_right _ q432) rfl, gWG_in (List.mem_append_right _ q433) rfl, gWG_in (List.mem_append_right _ q434) rfl, gWG_in (List.mem_append_right _ q6) rfl, gWG_in (List.mem_append_right _ q435) rfl, ⟨by decide, by decide, by decide +kernel⟩⟩
theorem cw_Rank_79 : gwV R_Rank 79 y_Rank_documentOf b_Rank_documentOf 5 (some .int) 1 := ⟨gWG_in (List.mem_append_right _ q436) rfl, gWG_in (List.mem_append_right _ q419) rfl, gWG_in (List.mem_append_right _ q420) rfl, gWG_in (List.mem_append_right _ q6) rfl, gWG_in (List.mem_append_right _ q421) rfl, ⟨by decide, by decide, by decide +kernel⟩⟩
theorem cw_PG_147 : gwV R_PG 147 y_Rank_computeRanks b_Rank_computeRanks 4 none 1 := ⟨gWG_in (List.mem_append_right _ q437) rfl, gWG_in (List.mem_append_right _ q438) rfl, gWG_in (List.mem_append_right _ q439) rfl, gWG_in (List.mem_append_right _ q6) rfl, gWG_in (List.mem_append_right _ q440) rfl, ⟨by decide, by decide, by decide +kernel⟩⟩
theorem cw_Rank_82 : gwV R_Rank 82 y_Rank_listDocuments b_Rank_listDocuments 3 none 0 := ⟨gWG_in (List.mem_append_right _ q441) rfl, gWG_in (List.mem_append_right _ q443) rfl, gWG_in (List.mem_append_left _ (List.mem_map.mpr ⟨(⟨"PoliteGatherer$Ranking", "listDocuments", "()V"⟩, 8), by decide +kernel, rfl⟩)) rfl, gWG_in (List.mem_append_right _ q6) rfl, gWG_in (List.mem_append_right _ q444) rfl, ⟨by decide, by decide, by decide +kernel⟩⟩
theorem cw_Rank_100 : gwV R_Rank 100 y_Row_cutTo b_Row_cutTo 2 none 1 := ⟨gWG_in (List.mem_append_right _ q445) rfl, gWG_in (List.mem_append_right _ q312) rfl, gWG_in (List.mem_append_right _ q313) rfl, gWG_in (List.mem_append_right _ q4) rfl, gWG_in (List.mem_append_right _ q314) rfl, ⟨by decide, by decide, by decide +kernel⟩⟩
theorem cw_Rank_103 : gwV R_Rank 103 y_Rank_isDocument b_Rank_isDocument 2 (some .boolean) 1 := ⟨gWG_in (List.mem_append_right _ q446) rfl, gWG_in (List.mem_append_right _ q433) rfl, gWG_in (List.mem_append_right _ q434) rfl, gWG_in (List.mem_append_right _ q6) rfl, gWG_in (List.mem_append_right _ q435) rfl, ⟨by decide, by decide, by decide +kernel⟩⟩
theorem cw_Rank_106 : gwV R_Rank 106 y_Row_add b_Row_add 2 (some .boolean) 1 := ⟨gWG_in (List.mem_append_right _ q447) rfl, gWG_in (List.mem_append_right _ q270) rfl, gWG_in (List.mem_append_right _ q271) rfl, gWG_in (List.mem_append_right _ q4) rfl, gWG_in (List.mem_append_right _ q272) rfl, ⟨by decide, by decide, by decide +kernel⟩⟩
theorem cw_Rank_87 : gwV R_Rank 87 y_Rank_followLinks b_Rank_followLinks 5 none 1 := ⟨gWG_in (List.mem_append_right _ q449) rfl, gWG_in (List.mem_append_right _ q451) rfl, gWG_in (List.mem_append_left _ (List.mem_map.mpr ⟨(⟨"PoliteGatherer$Ranking", "followLinks", "(I)V"⟩, 8), by decide +kernel, rfl⟩)) rfl, gWG_in (List.mem_append_right _ q6) rfl, gWG_in (List.mem_append_right _ q452) rfl, ⟨by decide, by decide, by decide +kernel⟩⟩
theorem cw_Rank_112 : gwV R_Rank 112 y_Gat_chase b_Gat_chase 6 (some .int) 2 := ⟨gWG_in (List.mem_append_right _ q453) rfl, gWG_in (List.mem_append_right _ q356) rfl, gWG_in (List.mem_append_right _ q357) rfl, gWG_in (List.mem_append_right _ q5) rfl, gWG_in (List.mem_append_right _ q358) rfl, ⟨by decide, by decide, by decide +kernel⟩⟩
theorem cw_Rank_90 : gwV R_Rank 90 y_Rank_playRound b_Rank_playRound 3 none 0 := ⟨gWG_in (List.mem_append_right _ q454) rfl, gWG_in (List.mem_append_right _ q456) rfl, gWG_in (List.mem_append_left _ (List.mem_map.mpr ⟨(⟨"PoliteGatherer$Ranking", "playRound", "()V"⟩, 8), by decide +kernel, rfl⟩)) rfl, gWG_in (List.mem_append_right _ q6) rfl, gWG_in (List.mem_append_right _ q457) rfl, ⟨by decide, by decide, by decide +kernel⟩⟩
theorem cw_Rank_116 : gwV R_Rank 116 y_Rank_passOn b_Rank_passOn 6 none 1 := ⟨gWG_in (List.mem_append_right _ q458) rfl, gWG_in (List.mem_append_right _ q460) rfl, gWG_in (List.mem_append_left _ (List.mem_map.mpr ⟨(⟨"PoliteGatherer$Ranking", "passOn", "(I)V"⟩, 8), by decide +kernel, rfl⟩)) rfl, gWG_in (List.mem_append_right _ q6) rfl, gWG_in (List.mem_append_right _ q461) rfl, ⟨by decide, by decide, by decide +kernel⟩⟩
theorem cw_PG_155 : gwV R_PG 155 y_Rank_computeScores b_Rank_computeScores 5 none 2 := ⟨gWG_in (List.mem_append_right _ q469) rfl, gWG_in (List.mem_append_right _ q470) rfl, gWG_in (List.mem_append_right _ q471) rfl, gWG_in (List.mem_append_right _ q6) rfl, gWG_in (List.mem_append_right _ q472) rfl, ⟨by decide, by decide, by decide +kernel⟩⟩
theorem cw_Rank_93 : gwV R_Rank 93 y_Page_placesOf b_Page_placesOf 6 (some .int) 2 := ⟨gWG_in (List.mem_append_right _ q473) rfl, gWG_in (List.mem_append_right _ q474) rfl, gWG_in (List.mem_append_right _ q475) rfl, gWG_in (List.mem_append_right _ q8) rfl, gWG_in (List.mem_append_right _ q476) rfl, ⟨by decide, by decide, by decide +kernel⟩⟩
theorem cw_Page_45 : gwV R_Page 45 y_Row_at b_Row_at 2 (some .int) 1 := ⟨gWG_in (List.mem_append_right _ q477) rfl, gWG_in (List.mem_append_right _ q327) rfl, gWG_in (List.mem_append_right _ q328) rfl, gWG_in (List.mem_append_right _ q4) rfl, gWG_in (List.mem_append_right _ q329) rfl, ⟨by decide, by decide, by decide +kernel⟩⟩
theorem cw_PG_159 : gwV R_PG 159 y_Rank_documentAtPlace b_Rank_documentAtPlace 4 (some .int) 1 := ⟨gWG_in (List.mem_append_right _ q478) rfl, gWG_in (List.mem_append_right _ q479) rfl, gWG_in (List.mem_append_right _ q480) rfl, gWG_in (List.mem_append_right _ q6) rfl, gWG_in (List.mem_append_right _ q481) rfl, ⟨by decide, by decide, by decide +kernel⟩⟩
theorem cw_Rank_97 : gwV R_Rank 97 y_Rank_placeOf b_Rank_placeOf 4 (some .int) 1 := ⟨gWG_in (List.mem_append_right _ q482) rfl, gWG_in (List.mem_append_right _ q484) rfl, gWG_in (List.mem_append_left _ (List.mem_map.mpr ⟨(⟨"PoliteGatherer$Ranking", "placeOf", "(I)I"⟩, 8), by decide +kernel, rfl⟩)) rfl, gWG_in (List.mem_append_right _ q6) rfl, gWG_in (List.mem_append_right _ q485) rfl, ⟨by decide, by decide, by decide +kernel⟩⟩
theorem cw_Rank_125 : gwV R_Rank 125 y_Rank_standsBefore b_Rank_standsBefore 3 (some .boolean) 2 := ⟨gWG_in (List.mem_append_right _ q486) rfl, gWG_in (List.mem_append_right _ q488) rfl, gWG_in (List.mem_append_left _ (List.mem_map.mpr ⟨(⟨"PoliteGatherer$Ranking", "standsBefore", "(II)Z"⟩, 8), by decide +kernel, rfl⟩)) rfl, gWG_in (List.mem_append_right _ q6) rfl, gWG_in (List.mem_append_right _ q489) rfl, ⟨by decide, by decide, by decide +kernel⟩⟩
theorem cw_Rank_129 : gwV R_Rank 129 y_Page_comesBefore b_Page_comesBefore 2 (some .boolean) 1 := ⟨gWG_in (List.mem_append_right _ q490) rfl, gWG_in (List.mem_append_right _ q491) rfl, gWG_in (List.mem_append_right _ q492) rfl, gWG_in (List.mem_append_right _ q8) rfl, gWG_in (List.mem_append_right _ q493) rfl, ⟨by decide, by decide, by decide +kernel⟩⟩
theorem cw_Mod_78 : gwV R_Mod 78 y_Mod_isPage b_Mod_isPage 2 (some .boolean) 1 := ⟨gWG_in (List.mem_append_right _ q621) rfl, gWG_in (List.mem_append_right _ q623) rfl, gWG_in (List.mem_append_left _ (List.mem_map.mpr ⟨(⟨"PoliteGathererModel", "isPage", "(I)Z"⟩, 37), by decide +kernel, rfl⟩)) rfl, gWG_in (List.mem_append_right _ q7) rfl, gWG_in (List.mem_append_right _ q624) rfl, ⟨by decide, by decide, by decide +kernel⟩⟩
theorem cw_Mod_85 : gwV R_Mod 85 y_Mod_taken b_Mod_taken 5 (some .int) 2 := ⟨gWG_in (List.mem_append_right _ q649) rfl, gWG_in (List.mem_append_right _ q651) rfl, gWG_in (List.mem_append_left _ (List.mem_map.mpr ⟨(⟨"PoliteGathererModel", "taken", "(II)I"⟩, 37), by decide +kernel, rfl⟩)) rfl, gWG_in (List.mem_append_right _ q7) rfl, gWG_in (List.mem_append_right _ q652) rfl, ⟨by decide, by decide, by decide +kernel⟩⟩
theorem cw_Mod_134 : gwV R_Mod 134 y_Mod_queue b_Mod_queue 4 none 2 := ⟨gWG_in (List.mem_append_right _ q657) rfl, gWG_in (List.mem_append_right _ q659) rfl, gWG_in (List.mem_append_left _ (List.mem_map.mpr ⟨(⟨"PoliteGathererModel", "queue", "(II)V"⟩, 37), by decide +kernel, rfl⟩)) rfl, gWG_in (List.mem_append_right _ q7) rfl, gWG_in (List.mem_append_right _ q660) rfl, ⟨by decide, by decide, by decide +kernel⟩⟩
theorem cw_Mod_144 : gwV R_Mod 144 y_Mod_mark b_Mod_mark 1 none 0 := ⟨gWG_in (List.mem_append_right _ q661) rfl, gWG_in (List.mem_append_right _ q663) rfl, gWG_in (List.mem_append_left _ (List.mem_map.mpr ⟨(⟨"PoliteGathererModel", "mark", "()V"⟩, 37), by decide +kernel, rfl⟩)) rfl, gWG_in (List.mem_append_right _ q7) rfl, gWG_in (List.mem_append_right _ q664) rfl, ⟨by decide, by decide, by decide +kernel⟩⟩
theorem cw_Mod_159 : gwV R_Mod 159 y_Mod_handle b_Mod_handle 5 none 0 := ⟨gWG_in (List.mem_append_right _ q673) rfl, gWG_in (List.mem_append_right _ q675) rfl, gWG_in (List.mem_append_left _ (List.mem_map.mpr ⟨(⟨"PoliteGathererModel", "handle", "()V"⟩, 37), by decide +kernel, rfl⟩)) rfl, gWG_in (List.mem_append_right _ q7) rfl, gWG_in (List.mem_append_right _ q676) rfl, ⟨by decide, by decide, by decide +kernel⟩⟩
theorem cw_Mod_123 : gwV R_Mod 123 y_Mod_chase b_Mod_chase 5 (some .int) 2 := ⟨gWG_in (List.mem_append_right _ q677) rfl, gWG_in (List.mem_append_right _ q679) rfl, gWG_in (List.mem_append_left _ (List.mem_map.mpr ⟨(⟨"PoliteGathererModel", "chase", "(IZ)I"⟩, 37), by decide +kernel, rfl⟩)) rfl, gWG_in (List.mem_append_right _ q7) rfl, gWG_in (List.mem_append_right _ q680) rfl, ⟨by decide, by decide, by decide +kernel⟩⟩
theorem cw_Mod_104 : gwV R_Mod 104 y_Mod_allowed b_Mod_allowed 7 (some .boolean) 1 := ⟨gWG_in (List.mem_append_right _ q681) rfl, gWG_in (List.mem_append_right _ q646) rfl, gWG_in (List.mem_append_right _ q647) rfl, gWG_in (List.mem_append_right _ q7) rfl, gWG_in (List.mem_append_right _ q648) rfl, ⟨by decide, by decide, by decide +kernel⟩⟩
theorem cw_Mod_107 : gwV R_Mod 107 y_Mod_fetch b_Mod_fetch 4 none 1 := ⟨gWG_in (List.mem_append_right _ q682) rfl, gWG_in (List.mem_append_right _ q684) rfl, gWG_in (List.mem_append_left _ (List.mem_map.mpr ⟨(⟨"PoliteGathererModel", "fetch", "(I)V"⟩, 37), by decide +kernel, rfl⟩)) rfl, gWG_in (List.mem_append_right _ q7) rfl, gWG_in (List.mem_append_right _ q685) rfl, ⟨by decide, by decide, by decide +kernel⟩⟩
theorem cw_Mod_92 : gwV R_Mod 92 y_Mod_isFetched b_Mod_isFetched 4 (some .boolean) 1 := ⟨gWG_in (List.mem_append_right _ q686) rfl, gWG_in (List.mem_append_right _ q688) rfl, gWG_in (List.mem_append_left _ (List.mem_map.mpr ⟨(⟨"PoliteGathererModel", "isFetched", "(I)Z"⟩, 37), by decide +kernel, rfl⟩)) rfl, gWG_in (List.mem_append_right _ q7) rfl, gWG_in (List.mem_append_right _ q689) rfl, ⟨by decide, by decide, by decide +kernel⟩⟩
theorem cw_Mod_127 : gwV R_Mod 127 y_Mod_placeInCorpus b_Mod_placeInCorpus 4 (some .int) 1 := ⟨gWG_in (List.mem_append_right _ q690) rfl, gWG_in (List.mem_append_right _ q692) rfl, gWG_in (List.mem_append_left _ (List.mem_map.mpr ⟨(⟨"PoliteGathererModel", "placeInCorpus", "(I)I"⟩, 37), by decide +kernel, rfl⟩)) rfl, gWG_in (List.mem_append_right _ q7) rfl, gWG_in (List.mem_append_right _ q693) rfl, ⟨by decide, by decide, by decide +kernel⟩⟩
theorem cw_Mod_162 : gwV R_Mod 162 y_Mod_sameBody b_Mod_sameBody 5 (some .boolean) 2 := ⟨gWG_in (List.mem_append_right _ q722) rfl, gWG_in (List.mem_append_right _ q724) rfl, gWG_in (List.mem_append_left _ (List.mem_map.mpr ⟨(⟨"PoliteGathererModel", "sameBody", "(II)Z"⟩, 37), by decide +kernel, rfl⟩)) rfl, gWG_in (List.mem_append_right _ q7) rfl, gWG_in (List.mem_append_right _ q725) rfl, ⟨by decide, by decide, by decide +kernel⟩⟩
theorem cw_Mod_181 : gwV R_Mod 181 y_Mod_isDocument b_Mod_isDocument 2 (some .boolean) 1 := ⟨gWG_in (List.mem_append_right _ q730) rfl, gWG_in (List.mem_append_right _ q732) rfl, gWG_in (List.mem_append_left _ (List.mem_map.mpr ⟨(⟨"PoliteGathererModel", "isDocument", "(I)Z"⟩, 37), by decide +kernel, rfl⟩)) rfl, gWG_in (List.mem_append_right _ q7) rfl, gWG_in (List.mem_append_right _ q733) rfl, ⟨by decide, by decide, by decide +kernel⟩⟩
theorem cw_Mod_166 : gwV R_Mod 166 y_Mod_document b_Mod_document 3 (some .int) 1 := ⟨gWG_in (List.mem_append_right _ q734) rfl, gWG_in (List.mem_append_right _ q719) rfl, gWG_in (List.mem_append_right _ q720) rfl, gWG_in (List.mem_append_right _ q7) rfl, gWG_in (List.mem_append_right _ q721) rfl, ⟨by decide, by decide, by decide +kernel⟩⟩
theorem cw_Mod_184 : gwV R_Mod 184 y_Mod_rankAll b_Mod_rankAll 5 none 1 := ⟨gWG_in (List.mem_append_right _ q735) rfl, gWG_in (List.mem_append_right _ q737) rfl, gWG_in (List.mem_append_left _ (List.mem_map.mpr ⟨(⟨"PoliteGathererModel", "rankAll", "(I)V"⟩, 37), by decide +kernel, rfl⟩)) rfl, gWG_in (List.mem_append_right _ q7) rfl, gWG_in (List.mem_append_right _ q738) rfl, ⟨by decide, by decide, by decide +kernel⟩⟩
theorem cw_Mod_175 : gwV R_Mod 175 y_Mod_sum b_Mod_sum 9 (some .long) 1 := ⟨gWG_in (List.mem_append_right _ q742) rfl, gWG_in (List.mem_append_right _ q744) rfl, gWG_in (List.mem_append_left _ (List.mem_map.mpr ⟨(⟨"PoliteGathererModel", "sum", "(I)J"⟩, 37), by decide +kernel, rfl⟩)) rfl, gWG_in (List.mem_append_right _ q7) rfl, gWG_in (List.mem_append_right _ q745) rfl, ⟨by decide, by decide, by decide +kernel⟩⟩
theorem cw_Mod_187 : gwV R_Mod 187 y_Mod_score b_Mod_score 7 (some .long) 3 := ⟨gWG_in (List.mem_append_right _ q751) rfl, gWG_in (List.mem_append_right _ q753) rfl, gWG_in (List.mem_append_left _ (List.mem_map.mpr ⟨(⟨"PoliteGathererModel", "score", "(III)J"⟩, 37), by decide +kernel, rfl⟩)) rfl, gWG_in (List.mem_append_right _ q7) rfl, gWG_in (List.mem_append_right _ q754) rfl, ⟨by decide, by decide, by decide +kernel⟩⟩
theorem cw_Mod_191 : gwV R_Mod 191 y_Mod_comesBefore b_Mod_comesBefore 9 (some .boolean) 4 := ⟨gWG_in (List.mem_append_right _ q755) rfl, gWG_in (List.mem_append_right _ q757) rfl, gWG_in (List.mem_append_left _ (List.mem_map.mpr ⟨(⟨"PoliteGathererModel", "comesBefore", "(IIII)Z"⟩, 37), by decide +kernel, rfl⟩)) rfl, gWG_in (List.mem_append_right _ q7) rfl, gWG_in (List.mem_append_right _ q758) rfl, ⟨by decide, by decide, by decide +kernel⟩⟩
theorem w_Web_const_41 : Cond.constant R_Web 41 999999 ∈ gWG := gWG_in (List.mem_append_right _ q211) rfl
theorem w_PG_const_90 : Cond.constant R_PG 90 999999 ∈ gWG := gWG_in (List.mem_append_right _ q294) rfl
theorem w_Rank_constl_85 : Cond.constantLong R_Rank 85 1000000 ∈ gWG := gWG_in (List.mem_append_right _ q448) rfl
theorem w_Rank_constl_119 : Cond.constantLong R_Rank 119 150000 ∈ gWG := gWG_in (List.mem_append_right _ q462) rfl
theorem w_Rank_constl_121 : Cond.constantLong R_Rank 121 85 ∈ gWG := gWG_in (List.mem_append_right _ q463) rfl
theorem w_Rank_constl_123 : Cond.constantLong R_Rank 123 100 ∈ gWG := gWG_in (List.mem_append_right _ q464) rfl
theorem w_Mod_const_77 : Cond.constant R_Mod 77 999999 ∈ gWG := gWG_in (List.mem_append_right _ q616) rfl
theorem w_Mod_constl_169 : Cond.constantLong R_Mod 169 1000000 ∈ gWG := gWG_in (List.mem_append_right _ q739) rfl
theorem w_Mod_constl_171 : Cond.constantLong R_Mod 171 150000 ∈ gWG := gWG_in (List.mem_append_right _ q740) rfl
theorem w_Mod_constl_173 : Cond.constantLong R_Mod 173 85 ∈ gWG := gWG_in (List.mem_append_right _ q741) rfl
theorem w_Mod_constl_179 : Cond.constantLong R_Mod 179 100 ∈ gWG := gWG_in (List.mem_append_right _ q746) rfl
theorem w_Row_math_19 : Cond.methodLink R_Row 19 Lib.Math.min.name ∈ gWG := gWG_in (List.mem_append_right _ q315) rfl
theorem w_math_min_static : Cond.static Lib.Math.min.name ∈ gWG := gWG_in (List.mem_append_right _ q316) rfl
theorem w_math_min_code : Cond.code Lib.Math.min.name Lib.Math.min.code 2 (some .int) ∈ gWG := gWG_in (List.mem_append_right _ q317) rfl
theorem w_Gat_math_140 : Cond.methodLink R_Gat 140 Lib.Math.max.name ∈ gWG := gWG_in (List.mem_append_right _ q374) rfl
theorem w_math_max_static : Cond.static Lib.Math.max.name ∈ gWG := gWG_in (List.mem_append_right _ q375) rfl
theorem w_math_max_code : Cond.code Lib.Math.max.name Lib.Math.max.code 2 (some .int) ∈ gWG := gWG_in (List.mem_append_right _ q376) rfl
theorem w_math_init : Cond.initialized "java/lang/Math" ∈ gWG := gWG_in (List.mem_append_right _ q11) rfl
end
section
/-! Pure words: answers as ints, rows of numbers. -/
theorem nI_inc (i : Nat) : nI i + Int32.ofInt 1 = nI (i + 1) := nI_1 i
def bI (b : Bool) : Int32 := if b = true then 1 else 0
theorem bI_nar (b : Bool) : narrow .boolean (.int (bI b)) = .int (bI b) := by cases b <;> rfl
theorem bI_narz (b : Bool) : vp_nar .boolean (bI b) = bI b := by cases b <;> rfl
theorem bI_fit (b : Bool) : fits .boolean (.int (bI b)) = true := by cases b <;> rfl
theorem bI_0 {b : Bool} (h : bI b = 0) : b = false := by
  cases b
  · rfl
  · exact absurd h (by decide)
theorem bI_n0 {b : Bool} (h : ¬ bI b = 0) : b = true := by
  cases b
  · exact absurd rfl h
  · rfl
theorem bI_t : bI true = 1 := rfl
theorem bI_f : bI false = 0 := rfl
/-- x is among the first n of f -/
def pEq (f : Nat → Int32) (x : Int32) : Nat → Bool
  | 0 => false
  | n + 1 => pEq f x n || decide (f n = x)
theorem pEq_hit {f : Nat → Int32} {x : Int32} {i : Nat} (h : f i = x) : ∀ {n : Nat}, i < n → pEq f x n = true
  | 0, hi => absurd hi (Nat.not_lt_zero _)
  | n + 1, hi => by
    by_cases e : i = n
    · subst e
      simp [pEq, h]
    · simp [pEq, pEq_hit h (show i < n by omega)]
theorem pEq_step {f : Nat → Int32} {x : Int32} {n : Nat} (h : pEq f x n = false) (h2 : ¬ f n = x) : pEq f x (n + 1) = false := by simp [pEq, h, h2]
theorem pEq_of {f : Nat → Int32} {x : Int32} : ∀ {n : Nat}, pEq f x n = true → ∃ i, i < n ∧ f i = x
  | 0, h => by simp [pEq] at h
  | n + 1, h => by
    simp only [pEq, Bool.or_eq_true, decide_eq_true_eq] at h
    rcases h with h | h
    · obtain ⟨i, h1, h2⟩ := pEq_of h
      exact ⟨i, by omega, h2⟩
    · exact ⟨n, by omega, h⟩
theorem pEq_no {f : Nat → Int32} {x : Int32} {n i : Nat} (h : pEq f x n = false) (hi : i < n) : ¬ f i = x := fun e => by
  rw [pEq_hit e hi] at h
  cases h
theorem pEq_congr {f g : Nat → Int32} {x : Int32} : ∀ {n : Nat}, (∀ i, i < n → f i = g i) → pEq f x n = pEq g x n
  | 0, _ => rfl
  | n + 1, h => by
    simp only [pEq]
    rw [pEq_congr (fun i hi => h i (by omega)), h n (by omega)]
/-- two rows are the same up to n -/
def pSm (f g : Nat → Int32) : Nat → Bool
  | 0 => true
  | n + 1 => pSm f g n && decide (f n = g n)
theorem pSm_step {f g : Nat → Int32} {n : Nat} (h : pSm f g n = true) (h2 : f n = g n) : pSm f g (n + 1) = true := by simp [pSm, h, h2]
theorem pSm_no {f g : Nat → Int32} {i : Nat} (h : ¬ f i = g i) : ∀ {n : Nat}, i < n → pSm f g n = false
  | 0, hi => absurd hi (Nat.not_lt_zero _)
  | n + 1, hi => by
    by_cases e : i = n
    · subst e
      simp [pSm, h]
    · simp [pSm, pSm_no h (show i < n by omega)]
/-- a row of the picture: its size at the place q0, its items at the places lo i -/
def gRow (np k : Nat) (q0 : Nat × Nat × Nat) (lo : Nat → Nat × Nat × Nat) (cap : Nat) : Prop := k + 1 < 94 + 5 * np ∧ gk k = 3 ∧ gk (k + 1) = 8 ∧ gn (k + 1) = cap ∧ cap < 1000 ∧ gv np q0 ∧ gi q0 = (k, 1) ∧ ∀ i, i < cap → gv np (lo i) ∧ gi (lo i) = (k + 1, i)
theorem gRow_ne {np k : Nat} {q0 : Nat × Nat × Nat} {lo : Nat → Nat × Nat × Nat} {cap i : Nat} (h : gRow np k q0 lo cap) (hi : i < cap) : q0 ≠ lo i := by
  intro e
  have h1 := h.2.2.2.2.2.2.1
  rw [e, (h.2.2.2.2.2.2.2 i hi).2] at h1
  exact absurd (congrArg Prod.fst h1) (show ¬ k + 1 = k by omega)
theorem gRow_22 (np : Nat) : gRow np 22 (0, 0, 12) (fun i => (0, 11, i)) 6 := ⟨by omega, rfl, rfl, rfl, by decide, gv_0_0_12 _, rfl, fun i hi => ⟨gv_0_11 hi, gi_0_11 i⟩⟩
theorem gRow_25 (np : Nat) : gRow np 25 (0, 0, 21) (fun i => (0, 12, i)) 32 := ⟨by omega, rfl, rfl, rfl, by decide, gv_0_0_21 _, rfl, fun i hi => ⟨gv_0_12 hi, gi_0_12 i⟩⟩
theorem gRow_27 (np : Nat) : gRow np 27 (1, 2, 0) (fun i => (0, 13, i)) 32 := ⟨by omega, rfl, rfl, rfl, by decide, gv_1_2_0 _, rfl, fun i hi => ⟨gv_0_13 hi, gi_0_13 i⟩⟩
theorem gRow_29 (np : Nat) : gRow np 29 (0, 0, 23) (fun i => (0, 14, i)) 32 := ⟨by omega, rfl, rfl, rfl, by decide, gv_0_0_23 _, rfl, fun i hi => ⟨gv_0_14 hi, gi_0_14 i⟩⟩
theorem gRow_31 (np : Nat) : gRow np 31 (0, 0, 25) (fun i => (0, 15, i)) 32 := ⟨by omega, rfl, rfl, rfl, by decide, gv_0_0_25 _, rfl, fun i hi => ⟨gv_0_15 hi, gi_0_15 i⟩⟩
theorem gRow_35 (np : Nat) : gRow np 35 (1, 2, 1) (fun i => (1, 3, i)) 32 := ⟨by omega, rfl, rfl, rfl, by decide, gv_1_2_1 _, rfl, fun i hi => ⟨gv_1_3 hi, gi_1_3 i⟩⟩
theorem gRow_b {np p : Nat} (hp : p < np) : gRow np (gp p + 1) (0, 5, p) (fun i => (0, 4, 8 * p + i)) 8 := ⟨by unfold gp; omega, gk_p1 p, gk_p2 p, gn_p2 p, by decide, gv_0_5 hp, gi_0_5 p, fun i hi => ⟨gv_0_4 hp hi, gi_0_4 p hi⟩⟩
theorem gRow_l {np p : Nat} (hp : p < np) : gRow np (gp p + 3) (0, 7, p) (fun i => (0, 6, 5 * p + i)) 5 := ⟨by unfold gp; omega, gk_p3 p, gk_p4 p, gn_p4 p, by decide, gv_0_7 hp, gi_0_7 p, fun i hi => ⟨gv_0_6 hp hi, gi_0_6 p hi⟩⟩
end
section
/-! Rules: digits, prefixes, and that the class's way of taking the longest is the reference's. -/
theorem i_irr (x : Int32) : ¬ x < x := fun h => Int32.lt_irrefl h
def dgF : Nat → Nat → Nat
  | 0, _ => 0
  | f + 1, x => if x = 0 then 0 else dgF f (x / 10) + 1
def pfF : Nat → Nat → Nat → Bool
  | 0, _, _ => false
  | f + 1, y, x => if y = 0 then false else (decide (y = x) || pfF f (y / 10) x)
def tkI (x y : Nat) : Int32 := if pfF 10 y x = true then nI (dgF 10 x) else if x = 0 then 0 else -1
theorem dgF_0 : ∀ f, dgF f 0 = 0
  | 0 => rfl
  | _ + 1 => rfl
theorem dgF_mono : ∀ (f : Nat) {x y : Nat}, x ≤ y → dgF f x ≤ dgF f y
  | 0, _, _, _ => Nat.le_refl _
  | f + 1, x, y, h => by
    unfold dgF
    by_cases hx : x = 0
    · rw [if_pos hx]; exact Nat.zero_le _
    · rw [if_neg hx, if_neg (by omega)]
      exact Nat.succ_le_succ (dgF_mono f (Nat.div_le_div_right h))
theorem dgF_succ : ∀ (f : Nat) {x : Nat}, x < 10 ^ f → dgF (f + 1) x = dgF f x
  | 0, x, h => by
    have : x = 0 := by simpa using h
    subst this
    rfl
  | f + 1, x, h => by
    by_cases hx : x = 0
    · subst hx; rfl
    · show (if x = 0 then 0 else dgF (f + 1) (x / 10) + 1) = (if x = 0 then 0 else dgF f (x / 10) + 1)
      rw [if_neg hx, if_neg hx, dgF_succ f (by rw [Nat.pow_succ] at h; omega)]
theorem dgF_div {x : Nat} (hx : 0 < x) (h : x < 10 ^ 10) : dgF 10 x = dgF 10 (x / 10) + 1 := by
  show (if x = 0 then 0 else dgF 9 (x / 10) + 1) = _
  rw [if_neg (by omega), dgF_succ 9 (by omega)]
theorem pfF_head : ∀ (f : Nat) {y x : Nat}, pfF f y x = true → 0 < x ∧ ∃ k, x = y / 10 ^ k
  | 0, _, _, h => by simp [pfF] at h
  | f + 1, y, x, h => by
    unfold pfF at h
    by_cases hy : y = 0
    · rw [if_pos hy] at h; cases h
    · rw [if_neg hy, Bool.or_eq_true, decide_eq_true_eq] at h
      rcases h with h | h
      · exact ⟨by omega, 0, by simp [h]⟩
      · obtain ⟨h1, k, h2⟩ := pfF_head f h
        exact ⟨h1, k + 1, by rw [h2, Nat.div_div_eq_div_mul, Nat.pow_succ, Nat.mul_comm]⟩
def hdP (y x : Nat) : Bool := pfF 10 y x || decide (x = 0)
theorem hdP_lt {y x1 x2 : Nat} (hy : y < 10 ^ 10) (h1 : hdP y x1 = true) (h2 : hdP y x2 = true) (h : x2 < x1) : dgF 10 x2 < dgF 10 x1 := by
  unfold hdP at h1 h2
  simp only [Bool.or_eq_true, decide_eq_true_eq] at h1 h2
  rcases h1 with h1 | h1
  · obtain ⟨p1, i, e1⟩ := pfF_head 10 h1
    have hx1 : x1 < 10 ^ 10 := Nat.lt_of_le_of_lt (by rw [e1]; exact Nat.div_le_self _ _) hy
    rw [dgF_div p1 hx1]
    refine Nat.lt_succ_of_le (dgF_mono 10 ?_)
    rcases h2 with h2 | h2
    · obtain ⟨p2, j, e2⟩ := pfF_head 10 h2
      have hij : i < j := by
        refine Nat.lt_of_not_le fun hji => ?_
        have : y / 10 ^ i ≤ y / 10 ^ j := Nat.div_le_div_left (Nat.pow_le_pow_right (by omega) hji) (Nat.pow_pos (by omega))
        omega
      rw [e1, e2, Nat.div_div_eq_div_mul, ← Nat.pow_succ]
      exact Nat.div_le_div_left (Nat.pow_le_pow_right (by omega) hij) (Nat.pow_pos (by omega))
    · omega
  · omega
theorem dgF_le : ∀ (f x : Nat), dgF f x ≤ f
  | 0, _ => Nat.le_refl _
  | f + 1, x => by
    unfold dgF
    by_cases hx : x = 0
    · rw [if_pos hx]; exact Nat.zero_le _
    · rw [if_neg hx]; exact Nat.succ_le_succ (dgF_le f _)
theorem tkI_hd {x y : Nat} (h : hdP y x = true) : tkI x y = nI (dgF 10 x) := by
  unfold tkI
  by_cases hp : pfF 10 y x = true
  · rw [if_pos hp]
  · unfold hdP at h
    simp only [hp, Bool.false_or, decide_eq_true_eq] at h
    rw [if_neg hp, if_pos h, h]
    rfl
theorem tkI_no {x y : Nat} (h : hdP y x = false) : tkI x y = -1 := by
  unfold hdP at h
  simp only [Bool.or_eq_false_iff, decide_eq_false_iff_not] at h
  unfold tkI
  rw [if_neg (by rw [h.1]; decide), if_neg h.2]
/-- the reference's walk over the rules of a host -/
def alS (pr al : Nat → Int32) (y : Nat) : Nat → Int32 × Bool
  | 0 => (-1, true)
  | i + 1 =>
    if (alS pr al y i).1 < tkI (pr i).toNatClampNeg y then (tkI (pr i).toNatClampNeg y, decide (¬ al i = 0))
    else if tkI (pr i).toNatClampNeg y = (alS pr al y i).1 ∧ 0 ≤ tkI (pr i).toNatClampNeg y then ((alS pr al y i).1, (alS pr al y i).2 || decide (¬ al i = 0))
    else alS pr al y i
/-- the class's -/
def caS (pr al : Nat → Int32) (y : Nat) : Nat → Int32 × Bool
  | 0 => (-1, true)
  | i + 1 =>
    if pr i < (caS pr al y i).1 ∨ hdP y (pr i).toNatClampNeg = false then caS pr al y i
    else (pr i, decide (¬ al i = 0) || (decide (pr i = (caS pr al y i).1) && (caS pr al y i).2))
theorem caS_alS {pr al : Nat → Int32} {y : Nat} (hy : y < 10 ^ 10) : ∀ (n : Nat), (∀ i, i < n → ∃ x, x ≤ 999999 ∧ pr i = nI x) →
    (caS pr al y n).2 = (alS pr al y n).2 ∧ (((caS pr al y n).1 = -1 ∧ (alS pr al y n).1 = -1) ∨ ∃ x, x ≤ 999999 ∧ hdP y x = true ∧ (caS pr al y n).1 = nI x ∧ (alS pr al y n).1 = nI (dgF 10 x))
  | 0, _ => ⟨rfl, Or.inl ⟨rfl, rfl⟩⟩
  | n + 1, hp => by
    obtain ⟨h2, h1⟩ := caS_alS hy n (fun i hi => hp i (by omega))
    obtain ⟨x, hx, ex⟩ := hp n (by omega)
    have hcl : (pr n).toNatClampNeg = x := by rw [ex]; exact nI_clamp (by omega)
    have m1 : (-1 : Int32) < nI x := Int32.lt_iff_toInt_lt.mpr (by rw [nI_toInt (by omega)]; show (-1 : Int) < _; omega)
    have md : ∀ d, d ≤ 10 → (-1 : Int32) < nI d := fun d hd => Int32.lt_iff_toInt_lt.mpr (by rw [nI_toInt (by omega)]; show (-1 : Int) < _; omega)
    have ne1 : ∀ d, d ≤ 999999 → ¬ nI d = (-1 : Int32) := fun d hd e => by
      have := congrArg Int32.toInt e
      rw [nI_toInt (by omega)] at this
      exact absurd this (by show ¬ ((d : Int) = -1); omega)
    simp only [caS, alS]
    rw [hcl]
    cases hh : hdP y x with
    | false =>
      rw [tkI_no hh, if_pos (Or.inr rfl)]
      have ha : ¬ (alS pr al y n).1 < -1 := by
        rcases h1 with ⟨_, e⟩ | ⟨x0, hx0, _, _, e⟩
        · rw [e]; decide
        · rw [e]
          exact fun q => absurd (Int32.lt_trans q (md _ (dgF_le 10 x0))) (i_irr _)
      rw [if_neg ha, if_neg (fun q => absurd q.2 (by decide))]
      exact ⟨h2, h1⟩
    | true =>
      rw [tkI_hd hh]
      have hd := dgF_le 10 x
      rcases h1 with ⟨e1, e2⟩ | ⟨x0, hx0, hh0, e1, e2⟩
      · rw [e1, e2, if_neg (by
          rintro (q | q)
          · rw [ex] at q
            exact absurd (Int32.lt_trans q m1) (i_irr _)
          · cases q), if_pos (md _ hd)]
        refine ⟨?_, Or.inr ⟨x, hx, hh, ex, rfl⟩⟩
        show (_ || (decide (pr n = -1) && _)) = _
        rw [decide_eq_false (p := pr n = -1) (by rw [ex]; exact ne1 x hx), Bool.false_and, Bool.or_false]
      · have hd0 := dgF_le 10 x0
        rw [e1, e2, ex]
        rcases Nat.lt_trichotomy x x0 with c | c | c
        · have hlt := hdP_lt hy hh0 hh c
          rw [if_pos (Or.inl ((nI_ltI (by omega) (by omega)).mpr c)), if_neg (fun q => absurd ((nI_ltI (by omega) (by omega)).mp q) (by omega)), if_neg (fun q => absurd ((nI_eq (by omega) (by omega)).mp q.1) (by omega))]
          exact ⟨h2, Or.inr ⟨x0, hx0, hh0, e1, e2⟩⟩
        · subst c
          rw [if_neg (by
            rintro (q | q)
            · exact absurd q (i_irr _)
            · cases q), if_neg (i_irr _), if_pos ⟨rfl, nI_pos' (by omega)⟩]
          refine ⟨?_, Or.inr ⟨x, hx, hh, rfl, rfl⟩⟩
          show (_ || (decide (nI x = nI x) && _)) = (_ || _)
          rw [decide_eq_true (p := nI x = nI x) rfl, Bool.true_and, h2, Bool.or_comm]
        · have hlt := hdP_lt hy hh hh0 c
          rw [if_neg (by
            rintro (q | q)
            · exact absurd ((nI_ltI (by omega) (by omega)).mp q) (by omega)
            · cases q), if_pos ((nI_ltI (by omega) (by omega)).mpr hlt)]
          refine ⟨?_, Or.inr ⟨x, hx, hh, rfl, rfl⟩⟩
          show (_ || (decide (nI x = nI x0) && _)) = _
          rw [decide_eq_false (p := nI x = nI x0) (fun q => absurd ((nI_eq (by omega) (by omega)).mp q) (by omega)), Bool.false_and, Bool.or_false]
end
section
/-! Specs: what the calls do to the abstract state a. Scalars stand in row 0: 0 pages, 12 firsts, 13 under way, 14 limit, 15 hops, 16 delay, 17 every, 20 head, 21 queued, 23 fetched, 25 gathered, 26 now, 28 total, 29..32 marks, 33 since. -/
theorem pfF_step {f y x : Nat} (hy : 0 < y) (hx : ¬ y = x) : pfF (f + 1) y x = pfF f (y / 10) x := by
  show (if y = 0 then false else (decide (y = x) || pfF f (y / 10) x)) = _
  rw [if_neg (by omega), decide_eq_false hx, Bool.false_or]
theorem pfF_hit {f y x : Nat} (hy : 0 < y) (hx : y = x) : pfF (f + 1) y x = true := by
  show (if y = 0 then false else (decide (y = x) || pfF f (y / 10) x)) = _
  rw [if_neg (by omega), decide_eq_true hx, Bool.true_or]
theorem pfF_z : ∀ (f x : Nat), pfF f 0 x = false
  | 0, _ => rfl
  | _ + 1, _ => rfl
theorem pow_ne {f y : Nat} (hy : y < 10 ^ f) (h0 : 0 < y) : ∃ f', f = f' + 1 := by
  cases f with
  | zero => simp at hy; omega
  | succ n => exact ⟨n, rfl⟩
theorem caS_skip {pr al : Nat → Int32} {y i : Nat} (h : pr i < (caS pr al y i).1 ∨ hdP y (pr i).toNatClampNeg = false) : caS pr al y (i + 1) = caS pr al y i := if_pos h
theorem caS_take {pr al : Nat → Int32} {y i : Nat} (h1 : ¬ pr i < (caS pr al y i).1) (h2 : hdP y (pr i).toNatClampNeg = true) {b : Bool} (hb : (decide (¬ al i = 0) || (decide (pr i = (caS pr al y i).1) && (caS pr al y i).2)) = b) : caS pr al y (i + 1) = (pr i, b) := by
  rw [← hb]
  exact if_neg (fun q => q.elim h1 (fun z => by rw [h2] at z; cases z))
def cn (a : gA) (j : Nat) : Nat := (a 0 j).toNatClampNeg
theorem cn_of {a : gA} {j n : Nat} (h : a 0 j = nI n) (hn : n < 2 ^ 31) : cn a j = n := by unfold cn; rw [h]; exact nI_clamp hn
def sIn (x lo hi : Int32) : Bool := decide (lo ≤ x) && decide (x ≤ hi)
theorem sIn_t {x lo hi : Int32} (h1 : ¬ x < lo) (h2 : ¬ hi < x) : sIn x lo hi = true := by
  unfold sIn
  rw [decide_eq_true (Int32.not_lt.mp h1), decide_eq_true (Int32.not_lt.mp h2)]
  rfl
theorem sIn_f1 {x lo hi : Int32} (h1 : x < lo) : sIn x lo hi = false := by
  unfold sIn
  rw [decide_eq_false (Int32.not_le.mpr h1)]
  rfl
theorem sIn_f2 {x lo hi : Int32} (h1 : hi < x) : sIn x lo hi = false := by
  unfold sIn
  rw [decide_eq_false (Int32.not_le.mpr h1), Bool.and_false]
def sIs (a : gA) (p : Int32) : Bool := decide (0 ≤ p) && decide (p < a 0 0)
theorem sIs_t {a : gA} {p : Int32} (h1 : ¬ p < 0) (h2 : ¬ a 0 0 ≤ p) : sIs a p = true := by
  unfold sIs
  rw [decide_eq_true (Int32.not_lt.mp h1), decide_eq_true (Int32.not_le.mp h2)]
  rfl
theorem sIs_f1 {a : gA} {p : Int32} (h1 : p < 0) : sIs a p = false := by
  unfold sIs
  rw [decide_eq_false (Int32.not_le.mpr h1)]
  rfl
theorem sIs_f2 {a : gA} {p : Int32} (h1 : a 0 0 ≤ p) : sIs a p = false := by
  unfold sIs
  rw [decide_eq_false (Int32.not_lt.mpr h1), Bool.and_false]
theorem sIs_of {a : gA} {p : Int32} {np : Nat} (hn : a 0 0 = nI np) (hnp : np ≤ 32) (h : sIs a p = true) : ∃ P, P < np ∧ p = nI P := by
  unfold sIs at h
  rw [Bool.and_eq_true, decide_eq_true_eq, decide_eq_true_eq, hn] at h
  rcases pk_ix p (n := np) (by omega) with q | q | q
  · exact absurd h.1 (Int32.not_le.mpr q)
  · exact absurd h.2 (Int32.not_lt.mpr q)
  · exact q
theorem sIs_nI {a : gA} {P np : Nat} (hn : a 0 0 = nI np) (hnp : np ≤ 32) (h : P < np) : sIs a (nI P) = true := sIs_t (nI_pos (by omega)) (by rw [hn]; exact nI_ge h (by omega))
/-- the rules that a page's host has, and what they say -/
def sAlw (a : gA) (P : Nat) : Bool := (alS (fun i => a 8 (4 * (a 1 P).toNatClampNeg + i)) (fun i => a 9 (4 * (a 1 P).toNatClampNeg + i)) (a 2 P).toNatClampNeg (a 10 (a 1 P).toNatClampNeg).toNatClampNeg).2
/-- a page with this host and path is among the first n -/
def sDup (a : gA) (h q : Int32) : Nat → Bool
  | 0 => false
  | n + 1 => sDup a h q n || (decide (a 1 n = h) && decide (a 2 n = q))
theorem sDup_step {a : gA} {h q : Int32} {n : Nat} (h0 : sDup a h q n = false) (h2 : ¬ (a 1 n = h ∧ a 2 n = q)) : sDup a h q (n + 1) = false := by
  show (_ || _) = _
  rw [h0, Bool.false_or, Bool.and_eq_false_iff, decide_eq_false_iff_not, decide_eq_false_iff_not]
  exact Classical.not_and_iff_not_or_not.mp h2
theorem sDup_hit {a : gA} {h q : Int32} {i : Nat} (h1 : a 1 i = h) (h2 : a 2 i = q) : ∀ {n : Nat}, i < n → sDup a h q n = true
  | 0, hi => absurd hi (Nat.not_lt_zero _)
  | n + 1, hi => by
    show (_ || _) = _
    by_cases e : i = n
    · subst e
      rw [decide_eq_true h1, decide_eq_true h2, Bool.and_true, Bool.or_true]
    · rw [sDup_hit h1 h2 (show i < n by omega), Bool.true_or]
/-- the web keeps to its bounds -/
def WFw (np : Nat) (a : gA) : Prop := np ≤ 32 ∧ a 0 0 = nI np ∧
  (∀ p, p < np → (∃ h, h < 6 ∧ a 1 p = nI h) ∧ (∃ y, 1 ≤ y ∧ y ≤ 999999 ∧ a 2 p = nI y) ∧ (a 3 p = -2 ∨ a 3 p = -3 ∨ ∃ q, q < np ∧ a 3 p = nI q) ∧ (∃ w, w ≤ 8 ∧ a 5 p = nI w) ∧ ∃ k, k ≤ 5 ∧ a 7 p = nI k ∧ ∀ i, i < k → ∃ q, q < np ∧ a 6 (5 * p + i) = nI q) ∧
  (∀ h, h < 6 → ∃ k, k ≤ 4 ∧ a 10 h = nI k ∧ ∀ i, i < k → ∃ x, x ≤ 999999 ∧ a 8 (4 * h + i) = nI x) ∧
  (∀ p, np ≤ p → a 5 p = 0 ∧ a 7 p = 0) ∧ (∀ x, 8 * np ≤ x → a 4 x = 0) ∧ (∀ x, 5 * np ≤ x → a 6 x = 0) ∧
  (∃ k, k ≤ 6 ∧ a 0 12 = nI k ∧ ∀ i, i < k → ∃ q, q < np ∧ a 11 i = nI q) ∧ (∀ x, a 9 x = 0 ∨ a 9 x = 1) ∧ (a 0 13 = 0 ∨ a 0 13 = 1)
theorem sAlw_ca {np P hh yy rc : Nat} {a : gA} (h1 : a 1 P = nI hh) (hh6 : hh < 6) (h2 : a 2 P = nI yy) (hy : yy ≤ 999999) (h3 : a 10 hh = nI rc) (hrc : rc ≤ 4) (h4 : ∀ i, i < rc → ∃ x, x ≤ 999999 ∧ a 8 (4 * hh + i) = nI x) : sAlw a P = (caS (fun i => a 8 (4 * hh + i)) (fun i => a 9 (4 * hh + i)) yy rc).2 := by
  unfold sAlw
  rw [h1, h2, nI_clamp (by omega), nI_clamp (by omega), h3, nI_clamp (by omega)]
  exact (caS_alS (by omega) rc h4).1.symm
/-- of a body's first n words those that are one of two -/
def pCt (f : Nat → Int32) (x y : Int32) : Nat → Nat
  | 0 => 0
  | n + 1 => if f n = x ∨ f n = y then pCt f x y n + 1 else pCt f x y n
theorem pCt_le (f : Nat → Int32) (x y : Int32) : ∀ n, pCt f x y n ≤ n
  | 0 => Nat.le_refl _
  | n + 1 => by
    unfold pCt
    have := pCt_le f x y n
    split <;> omega
end
section
/-! Decoded instructions of Row. -/
theorem d_Row_init_0 : decode b_Row_init 0 = .ok (.aload_n 0, 1) := by decide +kernel
theorem d_Row_init_1 : decode b_Row_init 1 = .ok (.invokespecial 3, 3) := by decide +kernel
theorem d_Row_init_4 : decode b_Row_init 4 = .ok (.aload_n 0, 1) := by decide +kernel
theorem d_Row_init_5 : decode b_Row_init 5 = .ok (.iload_n 1, 1) := by decide +kernel
theorem d_Row_init_6 : decode b_Row_init 6 = .ok (.newarray .int, 2) := by decide +kernel
theorem d_Row_init_8 : decode b_Row_init 8 = .ok (.putfield 9, 3) := by decide +kernel
theorem d_Row_init_11 : decode b_Row_init 11 = .ok (.aload_n 0, 1) := by decide +kernel
theorem d_Row_init_12 : decode b_Row_init 12 = .ok (.iconst 0, 1) := by decide +kernel
theorem d_Row_init_13 : decode b_Row_init 13 = .ok (.putfield 15, 3) := by decide +kernel
theorem d_Row_init_16 : decode b_Row_init 16 = .ok (.return_, 1) := by decide +kernel
theorem d_Row_add_0 : decode b_Row_add 0 = .ok (.aload_n 0, 1) := by decide +kernel
theorem d_Row_add_1 : decode b_Row_add 1 = .ok (.getfield 15, 3) := by decide +kernel
theorem d_Row_add_4 : decode b_Row_add 4 = .ok (.aload_n 0, 1) := by decide +kernel
theorem d_Row_add_5 : decode b_Row_add 5 = .ok (.getfield 9, 3) := by decide +kernel
theorem d_Row_add_8 : decode b_Row_add 8 = .ok (.arraylength, 1) := by decide +kernel
theorem d_Row_add_9 : decode b_Row_add 9 = .ok (.if_icmp .lt 5, 3) := by decide +kernel
theorem d_Row_add_12 : decode b_Row_add 12 = .ok (.iconst 0, 1) := by decide +kernel
theorem d_Row_add_13 : decode b_Row_add 13 = .ok (.ireturn, 1) := by decide +kernel
theorem d_Row_add_14 : decode b_Row_add 14 = .ok (.aload_n 0, 1) := by decide +kernel
theorem d_Row_add_15 : decode b_Row_add 15 = .ok (.getfield 9, 3) := by decide +kernel
theorem d_Row_add_18 : decode b_Row_add 18 = .ok (.aload_n 0, 1) := by decide +kernel
theorem d_Row_add_19 : decode b_Row_add 19 = .ok (.getfield 15, 3) := by decide +kernel
theorem d_Row_add_22 : decode b_Row_add 22 = .ok (.iload_n 1, 1) := by decide +kernel
theorem d_Row_add_23 : decode b_Row_add 23 = .ok (.iastore, 1) := by decide +kernel
theorem d_Row_add_24 : decode b_Row_add 24 = .ok (.aload_n 0, 1) := by decide +kernel
theorem d_Row_add_25 : decode b_Row_add 25 = .ok (.dup, 1) := by decide +kernel
theorem d_Row_add_26 : decode b_Row_add 26 = .ok (.getfield 15, 3) := by decide +kernel
theorem d_Row_add_29 : decode b_Row_add 29 = .ok (.iconst 1, 1) := by decide +kernel
theorem d_Row_add_30 : decode b_Row_add 30 = .ok (.iadd, 1) := by decide +kernel
theorem d_Row_add_31 : decode b_Row_add 31 = .ok (.putfield 15, 3) := by decide +kernel
theorem d_Row_add_34 : decode b_Row_add 34 = .ok (.iconst 1, 1) := by decide +kernel
theorem d_Row_add_35 : decode b_Row_add 35 = .ok (.ireturn, 1) := by decide +kernel
theorem d_Row_at_0 : decode b_Row_at 0 = .ok (.iconst 0, 1) := by decide +kernel
theorem d_Row_at_1 : decode b_Row_at 1 = .ok (.iload_n 1, 1) := by decide +kernel
theorem d_Row_at_2 : decode b_Row_at 2 = .ok (.if_icmp .gt 20, 3) := by decide +kernel
theorem d_Row_at_5 : decode b_Row_at 5 = .ok (.iload_n 1, 1) := by decide +kernel
theorem d_Row_at_6 : decode b_Row_at 6 = .ok (.aload_n 0, 1) := by decide +kernel
theorem d_Row_at_7 : decode b_Row_at 7 = .ok (.getfield 15, 3) := by decide +kernel
theorem d_Row_at_10 : decode b_Row_at 10 = .ok (.if_icmp .ge 12, 3) := by decide +kernel
theorem d_Row_at_13 : decode b_Row_at 13 = .ok (.aload_n 0, 1) := by decide +kernel
theorem d_Row_at_14 : decode b_Row_at 14 = .ok (.getfield 9, 3) := by decide +kernel
theorem d_Row_at_17 : decode b_Row_at 17 = .ok (.iload_n 1, 1) := by decide +kernel
theorem d_Row_at_18 : decode b_Row_at 18 = .ok (.iaload, 1) := by decide +kernel
theorem d_Row_at_19 : decode b_Row_at 19 = .ok (.goto 4, 3) := by decide +kernel
theorem d_Row_at_22 : decode b_Row_at 22 = .ok (.iconst (-1), 1) := by decide +kernel
theorem d_Row_at_23 : decode b_Row_at 23 = .ok (.ireturn, 1) := by decide +kernel
theorem d_Row_holds_0 : decode b_Row_holds 0 = .ok (.iconst 0, 1) := by decide +kernel
theorem d_Row_holds_1 : decode b_Row_holds 1 = .ok (.istore_n 2, 1) := by decide +kernel
theorem d_Row_holds_2 : decode b_Row_holds 2 = .ok (.iload_n 2, 1) := by decide +kernel
theorem d_Row_holds_3 : decode b_Row_holds 3 = .ok (.aload_n 0, 1) := by decide +kernel
theorem d_Row_holds_4 : decode b_Row_holds 4 = .ok (.getfield 15, 3) := by decide +kernel
theorem d_Row_holds_7 : decode b_Row_holds 7 = .ok (.if_icmp .ge 21, 3) := by decide +kernel
theorem d_Row_holds_10 : decode b_Row_holds 10 = .ok (.aload_n 0, 1) := by decide +kernel
theorem d_Row_holds_11 : decode b_Row_holds 11 = .ok (.getfield 9, 3) := by decide +kernel
theorem d_Row_holds_14 : decode b_Row_holds 14 = .ok (.iload_n 2, 1) := by decide +kernel
theorem d_Row_holds_15 : decode b_Row_holds 15 = .ok (.iaload, 1) := by decide +kernel
theorem d_Row_holds_16 : decode b_Row_holds 16 = .ok (.iload_n 1, 1) := by decide +kernel
theorem d_Row_holds_17 : decode b_Row_holds 17 = .ok (.if_icmp .ne 5, 3) := by decide +kernel
theorem d_Row_holds_20 : decode b_Row_holds 20 = .ok (.iconst 1, 1) := by decide +kernel
theorem d_Row_holds_21 : decode b_Row_holds 21 = .ok (.ireturn, 1) := by decide +kernel
theorem d_Row_holds_22 : decode b_Row_holds 22 = .ok (.iinc 2 1, 3) := by decide +kernel
theorem d_Row_holds_25 : decode b_Row_holds 25 = .ok (.goto (-23), 3) := by decide +kernel
theorem d_Row_holds_28 : decode b_Row_holds 28 = .ok (.iconst 0, 1) := by decide +kernel
theorem d_Row_holds_29 : decode b_Row_holds 29 = .ok (.ireturn, 1) := by decide +kernel
theorem d_Row_sameAs_0 : decode b_Row_sameAs 0 = .ok (.aload_n 0, 1) := by decide +kernel
theorem d_Row_sameAs_1 : decode b_Row_sameAs 1 = .ok (.getfield 15, 3) := by decide +kernel
theorem d_Row_sameAs_4 : decode b_Row_sameAs 4 = .ok (.aload_n 1, 1) := by decide +kernel
theorem d_Row_sameAs_5 : decode b_Row_sameAs 5 = .ok (.getfield 15, 3) := by decide +kernel
theorem d_Row_sameAs_8 : decode b_Row_sameAs 8 = .ok (.if_icmp .eq 5, 3) := by decide +kernel
theorem d_Row_sameAs_11 : decode b_Row_sameAs 11 = .ok (.iconst 0, 1) := by decide +kernel
theorem d_Row_sameAs_12 : decode b_Row_sameAs 12 = .ok (.ireturn, 1) := by decide +kernel
theorem d_Row_sameAs_13 : decode b_Row_sameAs 13 = .ok (.iconst 0, 1) := by decide +kernel
theorem d_Row_sameAs_14 : decode b_Row_sameAs 14 = .ok (.istore_n 2, 1) := by decide +kernel
theorem d_Row_sameAs_15 : decode b_Row_sameAs 15 = .ok (.iload_n 2, 1) := by decide +kernel
theorem d_Row_sameAs_16 : decode b_Row_sameAs 16 = .ok (.aload_n 0, 1) := by decide +kernel
theorem d_Row_sameAs_17 : decode b_Row_sameAs 17 = .ok (.getfield 15, 3) := by decide +kernel
theorem d_Row_sameAs_20 : decode b_Row_sameAs 20 = .ok (.if_icmp .ge 26, 3) := by decide +kernel
theorem d_Row_sameAs_23 : decode b_Row_sameAs 23 = .ok (.aload_n 0, 1) := by decide +kernel
theorem d_Row_sameAs_24 : decode b_Row_sameAs 24 = .ok (.getfield 9, 3) := by decide +kernel
theorem d_Row_sameAs_27 : decode b_Row_sameAs 27 = .ok (.iload_n 2, 1) := by decide +kernel
theorem d_Row_sameAs_28 : decode b_Row_sameAs 28 = .ok (.iaload, 1) := by decide +kernel
theorem d_Row_sameAs_29 : decode b_Row_sameAs 29 = .ok (.aload_n 1, 1) := by decide +kernel
theorem d_Row_sameAs_30 : decode b_Row_sameAs 30 = .ok (.getfield 9, 3) := by decide +kernel
theorem d_Row_sameAs_33 : decode b_Row_sameAs 33 = .ok (.iload_n 2, 1) := by decide +kernel
theorem d_Row_sameAs_34 : decode b_Row_sameAs 34 = .ok (.iaload, 1) := by decide +kernel
theorem d_Row_sameAs_35 : decode b_Row_sameAs 35 = .ok (.if_icmp .eq 5, 3) := by decide +kernel
theorem d_Row_sameAs_38 : decode b_Row_sameAs 38 = .ok (.iconst 0, 1) := by decide +kernel
theorem d_Row_sameAs_39 : decode b_Row_sameAs 39 = .ok (.ireturn, 1) := by decide +kernel
theorem d_Row_sameAs_40 : decode b_Row_sameAs 40 = .ok (.iinc 2 1, 3) := by decide +kernel
theorem d_Row_sameAs_43 : decode b_Row_sameAs 43 = .ok (.goto (-28), 3) := by decide +kernel
theorem d_Row_sameAs_46 : decode b_Row_sameAs 46 = .ok (.iconst 1, 1) := by decide +kernel
theorem d_Row_sameAs_47 : decode b_Row_sameAs 47 = .ok (.ireturn, 1) := by decide +kernel
theorem d_Row_cutTo_0 : decode b_Row_cutTo 0 = .ok (.aload_n 0, 1) := by decide +kernel
theorem d_Row_cutTo_1 : decode b_Row_cutTo 1 = .ok (.aload_n 0, 1) := by decide +kernel
theorem d_Row_cutTo_2 : decode b_Row_cutTo 2 = .ok (.getfield 15, 3) := by decide +kernel
theorem d_Row_cutTo_5 : decode b_Row_cutTo 5 = .ok (.iload_n 1, 1) := by decide +kernel
theorem d_Row_cutTo_6 : decode b_Row_cutTo 6 = .ok (.invokestatic 19, 3) := by decide +kernel
theorem d_Row_cutTo_9 : decode b_Row_cutTo 9 = .ok (.putfield 15, 3) := by decide +kernel
theorem d_Row_cutTo_12 : decode b_Row_cutTo 12 = .ok (.return_, 1) := by decide +kernel
end
section
/-! Decoded instructions of Host. -/
theorem d_Host_init_0 : decode b_Host_init 0 = .ok (.aload_n 0, 1) := by decide +kernel
theorem d_Host_init_1 : decode b_Host_init 1 = .ok (.invokespecial 3, 3) := by decide +kernel
theorem d_Host_init_4 : decode b_Host_init 4 = .ok (.aload_n 0, 1) := by decide +kernel
theorem d_Host_init_5 : decode b_Host_init 5 = .ok (.iconst 4, 1) := by decide +kernel
theorem d_Host_init_6 : decode b_Host_init 6 = .ok (.newarray .int, 2) := by decide +kernel
theorem d_Host_init_8 : decode b_Host_init 8 = .ok (.putfield 9, 3) := by decide +kernel
theorem d_Host_init_11 : decode b_Host_init 11 = .ok (.aload_n 0, 1) := by decide +kernel
theorem d_Host_init_12 : decode b_Host_init 12 = .ok (.iconst 4, 1) := by decide +kernel
theorem d_Host_init_13 : decode b_Host_init 13 = .ok (.newarray .boolean, 2) := by decide +kernel
theorem d_Host_init_15 : decode b_Host_init 15 = .ok (.putfield 15, 3) := by decide +kernel
theorem d_Host_init_18 : decode b_Host_init 18 = .ok (.aload_n 0, 1) := by decide +kernel
theorem d_Host_init_19 : decode b_Host_init 19 = .ok (.iconst 0, 1) := by decide +kernel
theorem d_Host_init_20 : decode b_Host_init 20 = .ok (.putfield 19, 3) := by decide +kernel
theorem d_Host_init_23 : decode b_Host_init 23 = .ok (.return_, 1) := by decide +kernel
theorem d_Host_addRule_0 : decode b_Host_addRule 0 = .ok (.aload_n 0, 1) := by decide +kernel
theorem d_Host_addRule_1 : decode b_Host_addRule 1 = .ok (.getfield 19, 3) := by decide +kernel
theorem d_Host_addRule_4 : decode b_Host_addRule 4 = .ok (.iconst 4, 1) := by decide +kernel
theorem d_Host_addRule_5 : decode b_Host_addRule 5 = .ok (.if_icmp .lt 5, 3) := by decide +kernel
theorem d_Host_addRule_8 : decode b_Host_addRule 8 = .ok (.iconst 0, 1) := by decide +kernel
theorem d_Host_addRule_9 : decode b_Host_addRule 9 = .ok (.ireturn, 1) := by decide +kernel
theorem d_Host_addRule_10 : decode b_Host_addRule 10 = .ok (.aload_n 0, 1) := by decide +kernel
theorem d_Host_addRule_11 : decode b_Host_addRule 11 = .ok (.getfield 9, 3) := by decide +kernel
theorem d_Host_addRule_14 : decode b_Host_addRule 14 = .ok (.aload_n 0, 1) := by decide +kernel
theorem d_Host_addRule_15 : decode b_Host_addRule 15 = .ok (.getfield 19, 3) := by decide +kernel
theorem d_Host_addRule_18 : decode b_Host_addRule 18 = .ok (.iload_n 1, 1) := by decide +kernel
theorem d_Host_addRule_19 : decode b_Host_addRule 19 = .ok (.iastore, 1) := by decide +kernel
theorem d_Host_addRule_20 : decode b_Host_addRule 20 = .ok (.aload_n 0, 1) := by decide +kernel
theorem d_Host_addRule_21 : decode b_Host_addRule 21 = .ok (.getfield 15, 3) := by decide +kernel
theorem d_Host_addRule_24 : decode b_Host_addRule 24 = .ok (.aload_n 0, 1) := by decide +kernel
theorem d_Host_addRule_25 : decode b_Host_addRule 25 = .ok (.getfield 19, 3) := by decide +kernel
theorem d_Host_addRule_28 : decode b_Host_addRule 28 = .ok (.iload_n 2, 1) := by decide +kernel
theorem d_Host_addRule_29 : decode b_Host_addRule 29 = .ok (.bastore, 1) := by decide +kernel
theorem d_Host_addRule_30 : decode b_Host_addRule 30 = .ok (.aload_n 0, 1) := by decide +kernel
theorem d_Host_addRule_31 : decode b_Host_addRule 31 = .ok (.dup, 1) := by decide +kernel
theorem d_Host_addRule_32 : decode b_Host_addRule 32 = .ok (.getfield 19, 3) := by decide +kernel
theorem d_Host_addRule_35 : decode b_Host_addRule 35 = .ok (.iconst 1, 1) := by decide +kernel
theorem d_Host_addRule_36 : decode b_Host_addRule 36 = .ok (.iadd, 1) := by decide +kernel
theorem d_Host_addRule_37 : decode b_Host_addRule 37 = .ok (.putfield 19, 3) := by decide +kernel
theorem d_Host_addRule_40 : decode b_Host_addRule 40 = .ok (.iconst 1, 1) := by decide +kernel
theorem d_Host_addRule_41 : decode b_Host_addRule 41 = .ok (.ireturn, 1) := by decide +kernel
theorem d_Host_allowsPath_0 : decode b_Host_allowsPath 0 = .ok (.iconst (-1), 1) := by decide +kernel
theorem d_Host_allowsPath_1 : decode b_Host_allowsPath 1 = .ok (.istore_n 2, 1) := by decide +kernel
theorem d_Host_allowsPath_2 : decode b_Host_allowsPath 2 = .ok (.iconst 1, 1) := by decide +kernel
theorem d_Host_allowsPath_3 : decode b_Host_allowsPath 3 = .ok (.istore_n 3, 1) := by decide +kernel
theorem d_Host_allowsPath_4 : decode b_Host_allowsPath 4 = .ok (.iconst 0, 1) := by decide +kernel
theorem d_Host_allowsPath_5 : decode b_Host_allowsPath 5 = .ok (.istore 4, 2) := by decide +kernel
theorem d_Host_allowsPath_7 : decode b_Host_allowsPath 7 = .ok (.iload 4, 2) := by decide +kernel
theorem d_Host_allowsPath_9 : decode b_Host_allowsPath 9 = .ok (.aload_n 0, 1) := by decide +kernel
theorem d_Host_allowsPath_10 : decode b_Host_allowsPath 10 = .ok (.getfield 19, 3) := by decide +kernel
theorem d_Host_allowsPath_13 : decode b_Host_allowsPath 13 = .ok (.if_icmp .ge 65, 3) := by decide +kernel
theorem d_Host_allowsPath_16 : decode b_Host_allowsPath 16 = .ok (.aload_n 0, 1) := by decide +kernel
theorem d_Host_allowsPath_17 : decode b_Host_allowsPath 17 = .ok (.getfield 9, 3) := by decide +kernel
theorem d_Host_allowsPath_20 : decode b_Host_allowsPath 20 = .ok (.iload 4, 2) := by decide +kernel
theorem d_Host_allowsPath_22 : decode b_Host_allowsPath 22 = .ok (.iaload, 1) := by decide +kernel
theorem d_Host_allowsPath_23 : decode b_Host_allowsPath 23 = .ok (.istore 5, 2) := by decide +kernel
theorem d_Host_allowsPath_25 : decode b_Host_allowsPath 25 = .ok (.iload 5, 2) := by decide +kernel
theorem d_Host_allowsPath_27 : decode b_Host_allowsPath 27 = .ok (.iload_n 2, 1) := by decide +kernel
theorem d_Host_allowsPath_28 : decode b_Host_allowsPath 28 = .ok (.if_icmp .lt 44, 3) := by decide +kernel
theorem d_Host_allowsPath_31 : decode b_Host_allowsPath 31 = .ok (.iload 5, 2) := by decide +kernel
theorem d_Host_allowsPath_33 : decode b_Host_allowsPath 33 = .ok (.iload_n 1, 1) := by decide +kernel
theorem d_Host_allowsPath_34 : decode b_Host_allowsPath 34 = .ok (.invokestatic 23, 3) := by decide +kernel
theorem d_Host_allowsPath_37 : decode b_Host_allowsPath 37 = .ok (.ifCond .ne 6, 3) := by decide +kernel
theorem d_Host_allowsPath_40 : decode b_Host_allowsPath 40 = .ok (.goto 32, 3) := by decide +kernel
theorem d_Host_allowsPath_43 : decode b_Host_allowsPath 43 = .ok (.aload_n 0, 1) := by decide +kernel
theorem d_Host_allowsPath_44 : decode b_Host_allowsPath 44 = .ok (.getfield 15, 3) := by decide +kernel
theorem d_Host_allowsPath_47 : decode b_Host_allowsPath 47 = .ok (.iload 4, 2) := by decide +kernel
theorem d_Host_allowsPath_49 : decode b_Host_allowsPath 49 = .ok (.baload, 1) := by decide +kernel
theorem d_Host_allowsPath_50 : decode b_Host_allowsPath 50 = .ok (.ifCond .ne 13, 3) := by decide +kernel
theorem d_Host_allowsPath_53 : decode b_Host_allowsPath 53 = .ok (.iload 5, 2) := by decide +kernel
theorem d_Host_allowsPath_55 : decode b_Host_allowsPath 55 = .ok (.iload_n 2, 1) := by decide +kernel
theorem d_Host_allowsPath_56 : decode b_Host_allowsPath 56 = .ok (.if_icmp .ne 11, 3) := by decide +kernel
theorem d_Host_allowsPath_59 : decode b_Host_allowsPath 59 = .ok (.iload_n 3, 1) := by decide +kernel
theorem d_Host_allowsPath_60 : decode b_Host_allowsPath 60 = .ok (.ifCond .eq 7, 3) := by decide +kernel
theorem d_Host_allowsPath_63 : decode b_Host_allowsPath 63 = .ok (.iconst 1, 1) := by decide +kernel
theorem d_Host_allowsPath_64 : decode b_Host_allowsPath 64 = .ok (.goto 4, 3) := by decide +kernel
theorem d_Host_allowsPath_67 : decode b_Host_allowsPath 67 = .ok (.iconst 0, 1) := by decide +kernel
theorem d_Host_allowsPath_68 : decode b_Host_allowsPath 68 = .ok (.istore_n 3, 1) := by decide +kernel
theorem d_Host_allowsPath_69 : decode b_Host_allowsPath 69 = .ok (.iload 5, 2) := by decide +kernel
theorem d_Host_allowsPath_71 : decode b_Host_allowsPath 71 = .ok (.istore_n 2, 1) := by decide +kernel
theorem d_Host_allowsPath_72 : decode b_Host_allowsPath 72 = .ok (.iinc 4 1, 3) := by decide +kernel
theorem d_Host_allowsPath_75 : decode b_Host_allowsPath 75 = .ok (.goto (-68), 3) := by decide +kernel
theorem d_Host_allowsPath_78 : decode b_Host_allowsPath 78 = .ok (.iload_n 3, 1) := by decide +kernel
theorem d_Host_allowsPath_79 : decode b_Host_allowsPath 79 = .ok (.ireturn, 1) := by decide +kernel
theorem d_Host_isPrefix_0 : decode b_Host_isPrefix 0 = .ok (.iload_n 1, 1) := by decide +kernel
theorem d_Host_isPrefix_1 : decode b_Host_isPrefix 1 = .ok (.istore_n 2, 1) := by decide +kernel
theorem d_Host_isPrefix_2 : decode b_Host_isPrefix 2 = .ok (.iload_n 2, 1) := by decide +kernel
theorem d_Host_isPrefix_3 : decode b_Host_isPrefix 3 = .ok (.ifCond .le 18, 3) := by decide +kernel
theorem d_Host_isPrefix_6 : decode b_Host_isPrefix 6 = .ok (.iload_n 2, 1) := by decide +kernel
theorem d_Host_isPrefix_7 : decode b_Host_isPrefix 7 = .ok (.iload_n 0, 1) := by decide +kernel
theorem d_Host_isPrefix_8 : decode b_Host_isPrefix 8 = .ok (.if_icmp .ne 5, 3) := by decide +kernel
theorem d_Host_isPrefix_11 : decode b_Host_isPrefix 11 = .ok (.iconst 1, 1) := by decide +kernel
theorem d_Host_isPrefix_12 : decode b_Host_isPrefix 12 = .ok (.ireturn, 1) := by decide +kernel
theorem d_Host_isPrefix_13 : decode b_Host_isPrefix 13 = .ok (.iload_n 2, 1) := by decide +kernel
theorem d_Host_isPrefix_14 : decode b_Host_isPrefix 14 = .ok (.bipush 10, 2) := by decide +kernel
theorem d_Host_isPrefix_16 : decode b_Host_isPrefix 16 = .ok (.idiv, 1) := by decide +kernel
theorem d_Host_isPrefix_17 : decode b_Host_isPrefix 17 = .ok (.istore_n 2, 1) := by decide +kernel
theorem d_Host_isPrefix_18 : decode b_Host_isPrefix 18 = .ok (.goto (-16), 3) := by decide +kernel
theorem d_Host_isPrefix_21 : decode b_Host_isPrefix 21 = .ok (.iload_n 0, 1) := by decide +kernel
theorem d_Host_isPrefix_22 : decode b_Host_isPrefix 22 = .ok (.ifCond .ne 7, 3) := by decide +kernel
theorem d_Host_isPrefix_25 : decode b_Host_isPrefix 25 = .ok (.iconst 1, 1) := by decide +kernel
theorem d_Host_isPrefix_26 : decode b_Host_isPrefix 26 = .ok (.goto 4, 3) := by decide +kernel
theorem d_Host_isPrefix_29 : decode b_Host_isPrefix 29 = .ok (.iconst 0, 1) := by decide +kernel
theorem d_Host_isPrefix_30 : decode b_Host_isPrefix 30 = .ok (.ireturn, 1) := by decide +kernel
/-! Decoded instructions of Page. -/
theorem d_Page_init_0 : decode b_Page_init 0 = .ok (.aload_n 0, 1) := by decide +kernel
theorem d_Page_init_1 : decode b_Page_init 1 = .ok (.invokespecial 3, 3) := by decide +kernel
theorem d_Page_init_4 : decode b_Page_init 4 = .ok (.aload_n 0, 1) := by decide +kernel
theorem d_Page_init_5 : decode b_Page_init 5 = .ok (.iload_n 1, 1) := by decide +kernel
theorem d_Page_init_6 : decode b_Page_init 6 = .ok (.putfield 9, 3) := by decide +kernel
theorem d_Page_init_9 : decode b_Page_init 9 = .ok (.aload_n 0, 1) := by decide +kernel
theorem d_Page_init_10 : decode b_Page_init 10 = .ok (.iload_n 2, 1) := by decide +kernel
theorem d_Page_init_11 : decode b_Page_init 11 = .ok (.putfield 15, 3) := by decide +kernel
theorem d_Page_init_14 : decode b_Page_init 14 = .ok (.aload_n 0, 1) := by decide +kernel
theorem d_Page_init_15 : decode b_Page_init 15 = .ok (.new 18, 3) := by decide +kernel
theorem d_Page_init_18 : decode b_Page_init 18 = .ok (.dup, 1) := by decide +kernel
theorem d_Page_init_19 : decode b_Page_init 19 = .ok (.bipush 8, 2) := by decide +kernel
theorem d_Page_init_21 : decode b_Page_init 21 = .ok (.invokespecial 20, 3) := by decide +kernel
theorem d_Page_init_24 : decode b_Page_init 24 = .ok (.putfield 23, 3) := by decide +kernel
theorem d_Page_init_27 : decode b_Page_init 27 = .ok (.aload_n 0, 1) := by decide +kernel
theorem d_Page_init_28 : decode b_Page_init 28 = .ok (.new 18, 3) := by decide +kernel
theorem d_Page_init_31 : decode b_Page_init 31 = .ok (.dup, 1) := by decide +kernel
theorem d_Page_init_32 : decode b_Page_init 32 = .ok (.iconst 5, 1) := by decide +kernel
theorem d_Page_init_33 : decode b_Page_init 33 = .ok (.invokespecial 20, 3) := by decide +kernel
theorem d_Page_init_36 : decode b_Page_init 36 = .ok (.putfield 27, 3) := by decide +kernel
theorem d_Page_init_39 : decode b_Page_init 39 = .ok (.aload_n 0, 1) := by decide +kernel
theorem d_Page_init_40 : decode b_Page_init 40 = .ok (.getstatic 30, 3) := by decide +kernel
theorem d_Page_init_43 : decode b_Page_init 43 = .ok (.putfield 36, 3) := by decide +kernel
theorem d_Page_init_46 : decode b_Page_init 46 = .ok (.aload_n 0, 1) := by decide +kernel
theorem d_Page_init_47 : decode b_Page_init 47 = .ok (.iconst (-1), 1) := by decide +kernel
theorem d_Page_init_48 : decode b_Page_init 48 = .ok (.putfield 39, 3) := by decide +kernel
theorem d_Page_init_51 : decode b_Page_init 51 = .ok (.return_, 1) := by decide +kernel
theorem d_Page_comesBefore_0 : decode b_Page_comesBefore 0 = .ok (.aload_n 0, 1) := by decide +kernel
theorem d_Page_comesBefore_1 : decode b_Page_comesBefore 1 = .ok (.getfield 9, 3) := by decide +kernel
theorem d_Page_comesBefore_4 : decode b_Page_comesBefore 4 = .ok (.aload_n 1, 1) := by decide +kernel
theorem d_Page_comesBefore_5 : decode b_Page_comesBefore 5 = .ok (.getfield 9, 3) := by decide +kernel
theorem d_Page_comesBefore_8 : decode b_Page_comesBefore 8 = .ok (.if_icmp .eq 22, 3) := by decide +kernel
theorem d_Page_comesBefore_11 : decode b_Page_comesBefore 11 = .ok (.aload_n 0, 1) := by decide +kernel
theorem d_Page_comesBefore_12 : decode b_Page_comesBefore 12 = .ok (.getfield 9, 3) := by decide +kernel
theorem d_Page_comesBefore_15 : decode b_Page_comesBefore 15 = .ok (.aload_n 1, 1) := by decide +kernel
theorem d_Page_comesBefore_16 : decode b_Page_comesBefore 16 = .ok (.getfield 9, 3) := by decide +kernel
theorem d_Page_comesBefore_19 : decode b_Page_comesBefore 19 = .ok (.if_icmp .ge 7, 3) := by decide +kernel
theorem d_Page_comesBefore_22 : decode b_Page_comesBefore 22 = .ok (.iconst 1, 1) := by decide +kernel
theorem d_Page_comesBefore_23 : decode b_Page_comesBefore 23 = .ok (.goto 23, 3) := by decide +kernel
theorem d_Page_comesBefore_26 : decode b_Page_comesBefore 26 = .ok (.iconst 0, 1) := by decide +kernel
theorem d_Page_comesBefore_27 : decode b_Page_comesBefore 27 = .ok (.goto 19, 3) := by decide +kernel
theorem d_Page_comesBefore_30 : decode b_Page_comesBefore 30 = .ok (.aload_n 0, 1) := by decide +kernel
theorem d_Page_comesBefore_31 : decode b_Page_comesBefore 31 = .ok (.getfield 15, 3) := by decide +kernel
theorem d_Page_comesBefore_34 : decode b_Page_comesBefore 34 = .ok (.aload_n 1, 1) := by decide +kernel
theorem d_Page_comesBefore_35 : decode b_Page_comesBefore 35 = .ok (.getfield 15, 3) := by decide +kernel
theorem d_Page_comesBefore_38 : decode b_Page_comesBefore 38 = .ok (.if_icmp .ge 7, 3) := by decide +kernel
theorem d_Page_comesBefore_41 : decode b_Page_comesBefore 41 = .ok (.iconst 1, 1) := by decide +kernel
theorem d_Page_comesBefore_42 : decode b_Page_comesBefore 42 = .ok (.goto 4, 3) := by decide +kernel
theorem d_Page_comesBefore_45 : decode b_Page_comesBefore 45 = .ok (.iconst 0, 1) := by decide +kernel
theorem d_Page_comesBefore_46 : decode b_Page_comesBefore 46 = .ok (.ireturn, 1) := by decide +kernel
theorem d_Page_placesOf_0 : decode b_Page_placesOf 0 = .ok (.iconst 0, 1) := by decide +kernel
theorem d_Page_placesOf_1 : decode b_Page_placesOf 1 = .ok (.istore_n 3, 1) := by decide +kernel
theorem d_Page_placesOf_2 : decode b_Page_placesOf 2 = .ok (.iconst 0, 1) := by decide +kernel
theorem d_Page_placesOf_3 : decode b_Page_placesOf 3 = .ok (.istore 4, 2) := by decide +kernel
theorem d_Page_placesOf_5 : decode b_Page_placesOf 5 = .ok (.iload 4, 2) := by decide +kernel
theorem d_Page_placesOf_7 : decode b_Page_placesOf 7 = .ok (.aload_n 0, 1) := by decide +kernel
theorem d_Page_placesOf_8 : decode b_Page_placesOf 8 = .ok (.getfield 23, 3) := by decide +kernel
theorem d_Page_placesOf_11 : decode b_Page_placesOf 11 = .ok (.getfield 42, 3) := by decide +kernel
theorem d_Page_placesOf_14 : decode b_Page_placesOf 14 = .ok (.if_icmp .ge 35, 3) := by decide +kernel
theorem d_Page_placesOf_17 : decode b_Page_placesOf 17 = .ok (.aload_n 0, 1) := by decide +kernel
theorem d_Page_placesOf_18 : decode b_Page_placesOf 18 = .ok (.getfield 23, 3) := by decide +kernel
theorem d_Page_placesOf_21 : decode b_Page_placesOf 21 = .ok (.iload 4, 2) := by decide +kernel
theorem d_Page_placesOf_23 : decode b_Page_placesOf 23 = .ok (.invokevirtual 45, 3) := by decide +kernel
theorem d_Page_placesOf_26 : decode b_Page_placesOf 26 = .ok (.istore 5, 2) := by decide +kernel
theorem d_Page_placesOf_28 : decode b_Page_placesOf 28 = .ok (.iload 5, 2) := by decide +kernel
theorem d_Page_placesOf_30 : decode b_Page_placesOf 30 = .ok (.iload_n 1, 1) := by decide +kernel
theorem d_Page_placesOf_31 : decode b_Page_placesOf 31 = .ok (.if_icmp .eq 9, 3) := by decide +kernel
theorem d_Page_placesOf_34 : decode b_Page_placesOf 34 = .ok (.iload 5, 2) := by decide +kernel
theorem d_Page_placesOf_36 : decode b_Page_placesOf 36 = .ok (.iload_n 2, 1) := by decide +kernel
theorem d_Page_placesOf_37 : decode b_Page_placesOf 37 = .ok (.if_icmp .ne 6, 3) := by decide +kernel
theorem d_Page_placesOf_40 : decode b_Page_placesOf 40 = .ok (.iinc 3 1, 3) := by decide +kernel
theorem d_Page_placesOf_43 : decode b_Page_placesOf 43 = .ok (.iinc 4 1, 3) := by decide +kernel
theorem d_Page_placesOf_46 : decode b_Page_placesOf 46 = .ok (.goto (-41), 3) := by decide +kernel
theorem d_Page_placesOf_49 : decode b_Page_placesOf 49 = .ok (.iload_n 3, 1) := by decide +kernel
theorem d_Page_placesOf_50 : decode b_Page_placesOf 50 = .ok (.ireturn, 1) := by decide +kernel
/-! Decoded instructions of Web. -/
theorem d_Web_init_0 : decode b_Web_init 0 = .ok (.aload_n 0, 1) := by decide +kernel
theorem d_Web_init_1 : decode b_Web_init 1 = .ok (.invokespecial 3, 3) := by decide +kernel
theorem d_Web_init_4 : decode b_Web_init 4 = .ok (.aload_n 0, 1) := by decide +kernel
theorem d_Web_init_5 : decode b_Web_init 5 = .ok (.bipush 32, 2) := by decide +kernel
theorem d_Web_init_7 : decode b_Web_init 7 = .ok (.anewarray 9, 3) := by decide +kernel
theorem d_Web_init_10 : decode b_Web_init 10 = .ok (.putfield 11, 3) := by decide +kernel
theorem d_Web_init_13 : decode b_Web_init 13 = .ok (.aload_n 0, 1) := by decide +kernel
theorem d_Web_init_14 : decode b_Web_init 14 = .ok (.bipush 6, 2) := by decide +kernel
theorem d_Web_init_16 : decode b_Web_init 16 = .ok (.anewarray 17, 3) := by decide +kernel
theorem d_Web_init_19 : decode b_Web_init 19 = .ok (.putfield 19, 3) := by decide +kernel
theorem d_Web_init_22 : decode b_Web_init 22 = .ok (.iconst 0, 1) := by decide +kernel
theorem d_Web_init_23 : decode b_Web_init 23 = .ok (.istore_n 1, 1) := by decide +kernel
theorem d_Web_init_24 : decode b_Web_init 24 = .ok (.iload_n 1, 1) := by decide +kernel
theorem d_Web_init_25 : decode b_Web_init 25 = .ok (.bipush 6, 2) := by decide +kernel
theorem d_Web_init_27 : decode b_Web_init 27 = .ok (.if_icmp .ge 22, 3) := by decide +kernel
theorem d_Web_init_30 : decode b_Web_init 30 = .ok (.aload_n 0, 1) := by decide +kernel
theorem d_Web_init_31 : decode b_Web_init 31 = .ok (.getfield 19, 3) := by decide +kernel
theorem d_Web_init_34 : decode b_Web_init 34 = .ok (.iload_n 1, 1) := by decide +kernel
theorem d_Web_init_35 : decode b_Web_init 35 = .ok (.new 17, 3) := by decide +kernel
theorem d_Web_init_38 : decode b_Web_init 38 = .ok (.dup, 1) := by decide +kernel
theorem d_Web_init_39 : decode b_Web_init 39 = .ok (.invokespecial 23, 3) := by decide +kernel
theorem d_Web_init_42 : decode b_Web_init 42 = .ok (.aastore, 1) := by decide +kernel
theorem d_Web_init_43 : decode b_Web_init 43 = .ok (.iinc 1 1, 3) := by decide +kernel
theorem d_Web_init_46 : decode b_Web_init 46 = .ok (.goto (-22), 3) := by decide +kernel
theorem d_Web_init_49 : decode b_Web_init 49 = .ok (.aload_n 0, 1) := by decide +kernel
theorem d_Web_init_50 : decode b_Web_init 50 = .ok (.new 24, 3) := by decide +kernel
theorem d_Web_init_53 : decode b_Web_init 53 = .ok (.dup, 1) := by decide +kernel
theorem d_Web_init_54 : decode b_Web_init 54 = .ok (.bipush 6, 2) := by decide +kernel
theorem d_Web_init_56 : decode b_Web_init 56 = .ok (.invokespecial 26, 3) := by decide +kernel
theorem d_Web_init_59 : decode b_Web_init 59 = .ok (.putfield 29, 3) := by decide +kernel
theorem d_Web_init_62 : decode b_Web_init 62 = .ok (.aload_n 0, 1) := by decide +kernel
theorem d_Web_init_63 : decode b_Web_init 63 = .ok (.iconst 0, 1) := by decide +kernel
theorem d_Web_init_64 : decode b_Web_init 64 = .ok (.putfield 33, 3) := by decide +kernel
theorem d_Web_init_67 : decode b_Web_init 67 = .ok (.return_, 1) := by decide +kernel
theorem d_Web_isPage_0 : decode b_Web_isPage 0 = .ok (.iconst 0, 1) := by decide +kernel
theorem d_Web_isPage_1 : decode b_Web_isPage 1 = .ok (.iload_n 1, 1) := by decide +kernel
theorem d_Web_isPage_2 : decode b_Web_isPage 2 = .ok (.if_icmp .gt 15, 3) := by decide +kernel
theorem d_Web_isPage_5 : decode b_Web_isPage 5 = .ok (.iload_n 1, 1) := by decide +kernel
theorem d_Web_isPage_6 : decode b_Web_isPage 6 = .ok (.aload_n 0, 1) := by decide +kernel
theorem d_Web_isPage_7 : decode b_Web_isPage 7 = .ok (.getfield 33, 3) := by decide +kernel
theorem d_Web_isPage_10 : decode b_Web_isPage 10 = .ok (.if_icmp .ge 7, 3) := by decide +kernel
theorem d_Web_isPage_13 : decode b_Web_isPage 13 = .ok (.iconst 1, 1) := by decide +kernel
theorem d_Web_isPage_14 : decode b_Web_isPage 14 = .ok (.goto 4, 3) := by decide +kernel
theorem d_Web_isPage_17 : decode b_Web_isPage 17 = .ok (.iconst 0, 1) := by decide +kernel
theorem d_Web_isPage_18 : decode b_Web_isPage 18 = .ok (.ireturn, 1) := by decide +kernel
theorem d_Web_addPage_0 : decode b_Web_addPage 0 = .ok (.iload_n 1, 1) := by decide +kernel
theorem d_Web_addPage_1 : decode b_Web_addPage 1 = .ok (.invokestatic 37, 3) := by decide +kernel
theorem d_Web_addPage_4 : decode b_Web_addPage 4 = .ok (.ifCond .eq 31, 3) := by decide +kernel
theorem d_Web_addPage_7 : decode b_Web_addPage 7 = .ok (.iload_n 2, 1) := by decide +kernel
theorem d_Web_addPage_8 : decode b_Web_addPage 8 = .ok (.iconst 1, 1) := by decide +kernel
theorem d_Web_addPage_9 : decode b_Web_addPage 9 = .ok (.ldc 41, 2) := by decide +kernel
theorem d_Web_addPage_11 : decode b_Web_addPage 11 = .ok (.invokestatic 42, 3) := by decide +kernel
theorem d_Web_addPage_14 : decode b_Web_addPage 14 = .ok (.ifCond .eq 21, 3) := by decide +kernel
theorem d_Web_addPage_17 : decode b_Web_addPage 17 = .ok (.aload_n 0, 1) := by decide +kernel
theorem d_Web_addPage_18 : decode b_Web_addPage 18 = .ok (.getfield 33, 3) := by decide +kernel
theorem d_Web_addPage_21 : decode b_Web_addPage 21 = .ok (.bipush 32, 2) := by decide +kernel
theorem d_Web_addPage_23 : decode b_Web_addPage 23 = .ok (.if_icmp .ge 12, 3) := by decide +kernel
theorem d_Web_addPage_26 : decode b_Web_addPage 26 = .ok (.aload_n 0, 1) := by decide +kernel
theorem d_Web_addPage_27 : decode b_Web_addPage 27 = .ok (.iload_n 1, 1) := by decide +kernel
theorem d_Web_addPage_28 : decode b_Web_addPage 28 = .ok (.iload_n 2, 1) := by decide +kernel
theorem d_Web_addPage_29 : decode b_Web_addPage 29 = .ok (.invokevirtual 46, 3) := by decide +kernel
theorem d_Web_addPage_32 : decode b_Web_addPage 32 = .ok (.ifCond .eq 5, 3) := by decide +kernel
theorem d_Web_addPage_35 : decode b_Web_addPage 35 = .ok (.iconst (-1), 1) := by decide +kernel
theorem d_Web_addPage_36 : decode b_Web_addPage 36 = .ok (.ireturn, 1) := by decide +kernel
theorem d_Web_addPage_37 : decode b_Web_addPage 37 = .ok (.aload_n 0, 1) := by decide +kernel
theorem d_Web_addPage_38 : decode b_Web_addPage 38 = .ok (.getfield 11, 3) := by decide +kernel
theorem d_Web_addPage_41 : decode b_Web_addPage 41 = .ok (.aload_n 0, 1) := by decide +kernel
theorem d_Web_addPage_42 : decode b_Web_addPage 42 = .ok (.getfield 33, 3) := by decide +kernel
theorem d_Web_addPage_45 : decode b_Web_addPage 45 = .ok (.new 9, 3) := by decide +kernel
theorem d_Web_addPage_48 : decode b_Web_addPage 48 = .ok (.dup, 1) := by decide +kernel
theorem d_Web_addPage_49 : decode b_Web_addPage 49 = .ok (.iload_n 1, 1) := by decide +kernel
theorem d_Web_addPage_50 : decode b_Web_addPage 50 = .ok (.iload_n 2, 1) := by decide +kernel
theorem d_Web_addPage_51 : decode b_Web_addPage 51 = .ok (.invokespecial 50, 3) := by decide +kernel
theorem d_Web_addPage_54 : decode b_Web_addPage 54 = .ok (.aastore, 1) := by decide +kernel
theorem d_Web_addPage_55 : decode b_Web_addPage 55 = .ok (.aload_n 0, 1) := by decide +kernel
theorem d_Web_addPage_56 : decode b_Web_addPage 56 = .ok (.dup, 1) := by decide +kernel
theorem d_Web_addPage_57 : decode b_Web_addPage 57 = .ok (.getfield 33, 3) := by decide +kernel
theorem d_Web_addPage_60 : decode b_Web_addPage 60 = .ok (.iconst 1, 1) := by decide +kernel
theorem d_Web_addPage_61 : decode b_Web_addPage 61 = .ok (.iadd, 1) := by decide +kernel
theorem d_Web_addPage_62 : decode b_Web_addPage 62 = .ok (.putfield 33, 3) := by decide +kernel
theorem d_Web_addPage_65 : decode b_Web_addPage 65 = .ok (.aload_n 0, 1) := by decide +kernel
theorem d_Web_addPage_66 : decode b_Web_addPage 66 = .ok (.getfield 33, 3) := by decide +kernel
theorem d_Web_addPage_69 : decode b_Web_addPage 69 = .ok (.iconst 1, 1) := by decide +kernel
theorem d_Web_addPage_70 : decode b_Web_addPage 70 = .ok (.isub, 1) := by decide +kernel
theorem d_Web_addPage_71 : decode b_Web_addPage 71 = .ok (.ireturn, 1) := by decide +kernel
theorem d_Web_isTaken_0 : decode b_Web_isTaken 0 = .ok (.iconst 0, 1) := by decide +kernel
theorem d_Web_isTaken_1 : decode b_Web_isTaken 1 = .ok (.istore_n 3, 1) := by decide +kernel
theorem d_Web_isTaken_2 : decode b_Web_isTaken 2 = .ok (.iload_n 3, 1) := by decide +kernel
theorem d_Web_isTaken_3 : decode b_Web_isTaken 3 = .ok (.aload_n 0, 1) := by decide +kernel
theorem d_Web_isTaken_4 : decode b_Web_isTaken 4 = .ok (.getfield 33, 3) := by decide +kernel
theorem d_Web_isTaken_7 : decode b_Web_isTaken 7 = .ok (.if_icmp .ge 37, 3) := by decide +kernel
theorem d_Web_isTaken_10 : decode b_Web_isTaken 10 = .ok (.aload_n 0, 1) := by decide +kernel
theorem d_Web_isTaken_11 : decode b_Web_isTaken 11 = .ok (.getfield 11, 3) := by decide +kernel
theorem d_Web_isTaken_14 : decode b_Web_isTaken 14 = .ok (.iload_n 3, 1) := by decide +kernel
theorem d_Web_isTaken_15 : decode b_Web_isTaken 15 = .ok (.aaload, 1) := by decide +kernel
theorem d_Web_isTaken_16 : decode b_Web_isTaken 16 = .ok (.getfield 53, 3) := by decide +kernel
theorem d_Web_isTaken_19 : decode b_Web_isTaken 19 = .ok (.iload_n 1, 1) := by decide +kernel
theorem d_Web_isTaken_20 : decode b_Web_isTaken 20 = .ok (.if_icmp .ne 18, 3) := by decide +kernel
theorem d_Web_isTaken_23 : decode b_Web_isTaken 23 = .ok (.aload_n 0, 1) := by decide +kernel
theorem d_Web_isTaken_24 : decode b_Web_isTaken 24 = .ok (.getfield 11, 3) := by decide +kernel
theorem d_Web_isTaken_27 : decode b_Web_isTaken 27 = .ok (.iload_n 3, 1) := by decide +kernel
theorem d_Web_isTaken_28 : decode b_Web_isTaken 28 = .ok (.aaload, 1) := by decide +kernel
theorem d_Web_isTaken_29 : decode b_Web_isTaken 29 = .ok (.getfield 56, 3) := by decide +kernel
theorem d_Web_isTaken_32 : decode b_Web_isTaken 32 = .ok (.iload_n 2, 1) := by decide +kernel
theorem d_Web_isTaken_33 : decode b_Web_isTaken 33 = .ok (.if_icmp .ne 5, 3) := by decide +kernel
theorem d_Web_isTaken_36 : decode b_Web_isTaken 36 = .ok (.iconst 1, 1) := by decide +kernel
theorem d_Web_isTaken_37 : decode b_Web_isTaken 37 = .ok (.ireturn, 1) := by decide +kernel
theorem d_Web_isTaken_38 : decode b_Web_isTaken 38 = .ok (.iinc 3 1, 3) := by decide +kernel
theorem d_Web_isTaken_41 : decode b_Web_isTaken 41 = .ok (.goto (-39), 3) := by decide +kernel
theorem d_Web_isTaken_44 : decode b_Web_isTaken 44 = .ok (.iconst 0, 1) := by decide +kernel
theorem d_Web_isTaken_45 : decode b_Web_isTaken 45 = .ok (.ireturn, 1) := by decide +kernel
theorem d_Web_isAllowed_0 : decode b_Web_isAllowed 0 = .ok (.aload_n 0, 1) := by decide +kernel
theorem d_Web_isAllowed_1 : decode b_Web_isAllowed 1 = .ok (.getfield 19, 3) := by decide +kernel
theorem d_Web_isAllowed_4 : decode b_Web_isAllowed 4 = .ok (.aload_n 0, 1) := by decide +kernel
theorem d_Web_isAllowed_5 : decode b_Web_isAllowed 5 = .ok (.getfield 11, 3) := by decide +kernel
theorem d_Web_isAllowed_8 : decode b_Web_isAllowed 8 = .ok (.iload_n 1, 1) := by decide +kernel
theorem d_Web_isAllowed_9 : decode b_Web_isAllowed 9 = .ok (.aaload, 1) := by decide +kernel
theorem d_Web_isAllowed_10 : decode b_Web_isAllowed 10 = .ok (.getfield 53, 3) := by decide +kernel
theorem d_Web_isAllowed_13 : decode b_Web_isAllowed 13 = .ok (.aaload, 1) := by decide +kernel
theorem d_Web_isAllowed_14 : decode b_Web_isAllowed 14 = .ok (.aload_n 0, 1) := by decide +kernel
theorem d_Web_isAllowed_15 : decode b_Web_isAllowed 15 = .ok (.getfield 11, 3) := by decide +kernel
theorem d_Web_isAllowed_18 : decode b_Web_isAllowed 18 = .ok (.iload_n 1, 1) := by decide +kernel
theorem d_Web_isAllowed_19 : decode b_Web_isAllowed 19 = .ok (.aaload, 1) := by decide +kernel
theorem d_Web_isAllowed_20 : decode b_Web_isAllowed 20 = .ok (.getfield 56, 3) := by decide +kernel
theorem d_Web_isAllowed_23 : decode b_Web_isAllowed 23 = .ok (.invokevirtual 59, 3) := by decide +kernel
theorem d_Web_isAllowed_26 : decode b_Web_isAllowed 26 = .ok (.ireturn, 1) := by decide +kernel
end
section
/-! Decoded instructions of Gat. -/
theorem d_Gat_init_0 : decode b_Gat_init 0 = .ok (.aload_n 0, 1) := by decide +kernel
theorem d_Gat_init_1 : decode b_Gat_init 1 = .ok (.invokespecial 3, 3) := by decide +kernel
theorem d_Gat_init_4 : decode b_Gat_init 4 = .ok (.aload_n 0, 1) := by decide +kernel
theorem d_Gat_init_5 : decode b_Gat_init 5 = .ok (.aload_n 1, 1) := by decide +kernel
theorem d_Gat_init_6 : decode b_Gat_init 6 = .ok (.putfield 9, 3) := by decide +kernel
theorem d_Gat_init_9 : decode b_Gat_init 9 = .ok (.aload_n 0, 1) := by decide +kernel
theorem d_Gat_init_10 : decode b_Gat_init 10 = .ok (.new 15, 3) := by decide +kernel
theorem d_Gat_init_13 : decode b_Gat_init 13 = .ok (.dup, 1) := by decide +kernel
theorem d_Gat_init_14 : decode b_Gat_init 14 = .ok (.bipush 32, 2) := by decide +kernel
theorem d_Gat_init_16 : decode b_Gat_init 16 = .ok (.invokespecial 17, 3) := by decide +kernel
theorem d_Gat_init_19 : decode b_Gat_init 19 = .ok (.putfield 20, 3) := by decide +kernel
theorem d_Gat_init_22 : decode b_Gat_init 22 = .ok (.aload_n 0, 1) := by decide +kernel
theorem d_Gat_init_23 : decode b_Gat_init 23 = .ok (.new 15, 3) := by decide +kernel
theorem d_Gat_init_26 : decode b_Gat_init 26 = .ok (.dup, 1) := by decide +kernel
theorem d_Gat_init_27 : decode b_Gat_init 27 = .ok (.bipush 32, 2) := by decide +kernel
theorem d_Gat_init_29 : decode b_Gat_init 29 = .ok (.invokespecial 17, 3) := by decide +kernel
theorem d_Gat_init_32 : decode b_Gat_init 32 = .ok (.putfield 24, 3) := by decide +kernel
theorem d_Gat_init_35 : decode b_Gat_init 35 = .ok (.aload_n 0, 1) := by decide +kernel
theorem d_Gat_init_36 : decode b_Gat_init 36 = .ok (.new 15, 3) := by decide +kernel
theorem d_Gat_init_39 : decode b_Gat_init 39 = .ok (.dup, 1) := by decide +kernel
theorem d_Gat_init_40 : decode b_Gat_init 40 = .ok (.bipush 32, 2) := by decide +kernel
theorem d_Gat_init_42 : decode b_Gat_init 42 = .ok (.invokespecial 17, 3) := by decide +kernel
theorem d_Gat_init_45 : decode b_Gat_init 45 = .ok (.putfield 27, 3) := by decide +kernel
theorem d_Gat_init_48 : decode b_Gat_init 48 = .ok (.aload_n 0, 1) := by decide +kernel
theorem d_Gat_init_49 : decode b_Gat_init 49 = .ok (.new 15, 3) := by decide +kernel
theorem d_Gat_init_52 : decode b_Gat_init 52 = .ok (.dup, 1) := by decide +kernel
theorem d_Gat_init_53 : decode b_Gat_init 53 = .ok (.bipush 32, 2) := by decide +kernel
theorem d_Gat_init_55 : decode b_Gat_init 55 = .ok (.invokespecial 17, 3) := by decide +kernel
theorem d_Gat_init_58 : decode b_Gat_init 58 = .ok (.putfield 30, 3) := by decide +kernel
theorem d_Gat_init_61 : decode b_Gat_init 61 = .ok (.aload_n 0, 1) := by decide +kernel
theorem d_Gat_init_62 : decode b_Gat_init 62 = .ok (.bipush 6, 2) := by decide +kernel
theorem d_Gat_init_64 : decode b_Gat_init 64 = .ok (.newarray .int, 2) := by decide +kernel
theorem d_Gat_init_66 : decode b_Gat_init 66 = .ok (.putfield 33, 3) := by decide +kernel
theorem d_Gat_init_69 : decode b_Gat_init 69 = .ok (.return_, 1) := by decide +kernel
theorem d_Gat_startAnew_0 : decode b_Gat_startAnew 0 = .ok (.aload_n 0, 1) := by decide +kernel
theorem d_Gat_startAnew_1 : decode b_Gat_startAnew 1 = .ok (.iload_n 1, 1) := by decide +kernel
theorem d_Gat_startAnew_2 : decode b_Gat_startAnew 2 = .ok (.putfield 37, 3) := by decide +kernel
theorem d_Gat_startAnew_5 : decode b_Gat_startAnew 5 = .ok (.aload_n 0, 1) := by decide +kernel
theorem d_Gat_startAnew_6 : decode b_Gat_startAnew 6 = .ok (.iload_n 2, 1) := by decide +kernel
theorem d_Gat_startAnew_7 : decode b_Gat_startAnew 7 = .ok (.putfield 41, 3) := by decide +kernel
theorem d_Gat_startAnew_10 : decode b_Gat_startAnew 10 = .ok (.aload_n 0, 1) := by decide +kernel
theorem d_Gat_startAnew_11 : decode b_Gat_startAnew 11 = .ok (.iload_n 3, 1) := by decide +kernel
theorem d_Gat_startAnew_12 : decode b_Gat_startAnew 12 = .ok (.putfield 44, 3) := by decide +kernel
theorem d_Gat_startAnew_15 : decode b_Gat_startAnew 15 = .ok (.aload_n 0, 1) := by decide +kernel
theorem d_Gat_startAnew_16 : decode b_Gat_startAnew 16 = .ok (.iload 4, 2) := by decide +kernel
theorem d_Gat_startAnew_18 : decode b_Gat_startAnew 18 = .ok (.putfield 47, 3) := by decide +kernel
theorem d_Gat_startAnew_21 : decode b_Gat_startAnew 21 = .ok (.aload_n 0, 1) := by decide +kernel
theorem d_Gat_startAnew_22 : decode b_Gat_startAnew 22 = .ok (.getfield 20, 3) := by decide +kernel
theorem d_Gat_startAnew_25 : decode b_Gat_startAnew 25 = .ok (.iconst 0, 1) := by decide +kernel
theorem d_Gat_startAnew_26 : decode b_Gat_startAnew 26 = .ok (.invokevirtual 50, 3) := by decide +kernel
theorem d_Gat_startAnew_29 : decode b_Gat_startAnew 29 = .ok (.aload_n 0, 1) := by decide +kernel
theorem d_Gat_startAnew_30 : decode b_Gat_startAnew 30 = .ok (.getfield 24, 3) := by decide +kernel
theorem d_Gat_startAnew_33 : decode b_Gat_startAnew 33 = .ok (.iconst 0, 1) := by decide +kernel
theorem d_Gat_startAnew_34 : decode b_Gat_startAnew 34 = .ok (.invokevirtual 50, 3) := by decide +kernel
theorem d_Gat_startAnew_37 : decode b_Gat_startAnew 37 = .ok (.aload_n 0, 1) := by decide +kernel
theorem d_Gat_startAnew_38 : decode b_Gat_startAnew 38 = .ok (.getfield 27, 3) := by decide +kernel
theorem d_Gat_startAnew_41 : decode b_Gat_startAnew 41 = .ok (.iconst 0, 1) := by decide +kernel
theorem d_Gat_startAnew_42 : decode b_Gat_startAnew 42 = .ok (.invokevirtual 50, 3) := by decide +kernel
theorem d_Gat_startAnew_45 : decode b_Gat_startAnew 45 = .ok (.aload_n 0, 1) := by decide +kernel
theorem d_Gat_startAnew_46 : decode b_Gat_startAnew 46 = .ok (.getfield 30, 3) := by decide +kernel
theorem d_Gat_startAnew_49 : decode b_Gat_startAnew 49 = .ok (.iconst 0, 1) := by decide +kernel
theorem d_Gat_startAnew_50 : decode b_Gat_startAnew 50 = .ok (.invokevirtual 50, 3) := by decide +kernel
theorem d_Gat_startAnew_53 : decode b_Gat_startAnew 53 = .ok (.aload_n 0, 1) := by decide +kernel
theorem d_Gat_startAnew_54 : decode b_Gat_startAnew 54 = .ok (.iconst 0, 1) := by decide +kernel
theorem d_Gat_startAnew_55 : decode b_Gat_startAnew 55 = .ok (.putfield 53, 3) := by decide +kernel
theorem d_Gat_startAnew_58 : decode b_Gat_startAnew 58 = .ok (.aload_n 0, 1) := by decide +kernel
theorem d_Gat_startAnew_59 : decode b_Gat_startAnew 59 = .ok (.iconst 0, 1) := by decide +kernel
theorem d_Gat_startAnew_60 : decode b_Gat_startAnew 60 = .ok (.putfield 56, 3) := by decide +kernel
theorem d_Gat_startAnew_63 : decode b_Gat_startAnew 63 = .ok (.aload_n 0, 1) := by decide +kernel
theorem d_Gat_startAnew_64 : decode b_Gat_startAnew 64 = .ok (.iconst 0, 1) := by decide +kernel
theorem d_Gat_startAnew_65 : decode b_Gat_startAnew 65 = .ok (.putfield 59, 3) := by decide +kernel
theorem d_Gat_startAnew_68 : decode b_Gat_startAnew 68 = .ok (.aload_n 0, 1) := by decide +kernel
theorem d_Gat_startAnew_69 : decode b_Gat_startAnew 69 = .ok (.iconst 0, 1) := by decide +kernel
theorem d_Gat_startAnew_70 : decode b_Gat_startAnew 70 = .ok (.invokevirtual 62, 3) := by decide +kernel
theorem d_Gat_startAnew_73 : decode b_Gat_startAnew 73 = .ok (.aload_n 0, 1) := by decide +kernel
theorem d_Gat_startAnew_74 : decode b_Gat_startAnew 74 = .ok (.aload_n 0, 1) := by decide +kernel
theorem d_Gat_startAnew_75 : decode b_Gat_startAnew 75 = .ok (.getfield 9, 3) := by decide +kernel
theorem d_Gat_startAnew_78 : decode b_Gat_startAnew 78 = .ok (.getfield 65, 3) := by decide +kernel
theorem d_Gat_startAnew_81 : decode b_Gat_startAnew 81 = .ok (.iconst 0, 1) := by decide +kernel
theorem d_Gat_startAnew_82 : decode b_Gat_startAnew 82 = .ok (.invokevirtual 70, 3) := by decide +kernel
theorem d_Gat_startAnew_85 : decode b_Gat_startAnew 85 = .ok (.aload_n 0, 1) := by decide +kernel
theorem d_Gat_startAnew_86 : decode b_Gat_startAnew 86 = .ok (.invokevirtual 74, 3) := by decide +kernel
theorem d_Gat_startAnew_89 : decode b_Gat_startAnew 89 = .ok (.return_, 1) := by decide +kernel
theorem d_Gat_entriesLeft_0 : decode b_Gat_entriesLeft 0 = .ok (.aload_n 0, 1) := by decide +kernel
theorem d_Gat_entriesLeft_1 : decode b_Gat_entriesLeft 1 = .ok (.getfield 20, 3) := by decide +kernel
theorem d_Gat_entriesLeft_4 : decode b_Gat_entriesLeft 4 = .ok (.getfield 77, 3) := by decide +kernel
theorem d_Gat_entriesLeft_7 : decode b_Gat_entriesLeft 7 = .ok (.aload_n 0, 1) := by decide +kernel
theorem d_Gat_entriesLeft_8 : decode b_Gat_entriesLeft 8 = .ok (.getfield 53, 3) := by decide +kernel
theorem d_Gat_entriesLeft_11 : decode b_Gat_entriesLeft 11 = .ok (.isub, 1) := by decide +kernel
theorem d_Gat_entriesLeft_12 : decode b_Gat_entriesLeft 12 = .ok (.ireturn, 1) := by decide +kernel
theorem d_Gat_handleEntry_0 : decode b_Gat_handleEntry 0 = .ok (.aload_n 0, 1) := by decide +kernel
theorem d_Gat_handleEntry_1 : decode b_Gat_handleEntry 1 = .ok (.getfield 20, 3) := by decide +kernel
theorem d_Gat_handleEntry_4 : decode b_Gat_handleEntry 4 = .ok (.aload_n 0, 1) := by decide +kernel
theorem d_Gat_handleEntry_5 : decode b_Gat_handleEntry 5 = .ok (.getfield 53, 3) := by decide +kernel
theorem d_Gat_handleEntry_8 : decode b_Gat_handleEntry 8 = .ok (.invokevirtual 80, 3) := by decide +kernel
theorem d_Gat_handleEntry_11 : decode b_Gat_handleEntry 11 = .ok (.istore_n 1, 1) := by decide +kernel
theorem d_Gat_handleEntry_12 : decode b_Gat_handleEntry 12 = .ok (.aload_n 0, 1) := by decide +kernel
theorem d_Gat_handleEntry_13 : decode b_Gat_handleEntry 13 = .ok (.getfield 24, 3) := by decide +kernel
theorem d_Gat_handleEntry_16 : decode b_Gat_handleEntry 16 = .ok (.aload_n 0, 1) := by decide +kernel
theorem d_Gat_handleEntry_17 : decode b_Gat_handleEntry 17 = .ok (.getfield 53, 3) := by decide +kernel
theorem d_Gat_handleEntry_20 : decode b_Gat_handleEntry 20 = .ok (.invokevirtual 80, 3) := by decide +kernel
theorem d_Gat_handleEntry_23 : decode b_Gat_handleEntry 23 = .ok (.istore_n 2, 1) := by decide +kernel
theorem d_Gat_handleEntry_24 : decode b_Gat_handleEntry 24 = .ok (.aload_n 0, 1) := by decide +kernel
theorem d_Gat_handleEntry_25 : decode b_Gat_handleEntry 25 = .ok (.dup, 1) := by decide +kernel
theorem d_Gat_handleEntry_26 : decode b_Gat_handleEntry 26 = .ok (.getfield 53, 3) := by decide +kernel
theorem d_Gat_handleEntry_29 : decode b_Gat_handleEntry 29 = .ok (.iconst 1, 1) := by decide +kernel
theorem d_Gat_handleEntry_30 : decode b_Gat_handleEntry 30 = .ok (.iadd, 1) := by decide +kernel
theorem d_Gat_handleEntry_31 : decode b_Gat_handleEntry 31 = .ok (.putfield 53, 3) := by decide +kernel
theorem d_Gat_handleEntry_34 : decode b_Gat_handleEntry 34 = .ok (.aload_n 0, 1) := by decide +kernel
theorem d_Gat_handleEntry_35 : decode b_Gat_handleEntry 35 = .ok (.iload_n 1, 1) := by decide +kernel
theorem d_Gat_handleEntry_36 : decode b_Gat_handleEntry 36 = .ok (.iconst 1, 1) := by decide +kernel
theorem d_Gat_handleEntry_37 : decode b_Gat_handleEntry 37 = .ok (.invokevirtual 84, 3) := by decide +kernel
theorem d_Gat_handleEntry_40 : decode b_Gat_handleEntry 40 = .ok (.istore_n 3, 1) := by decide +kernel
theorem d_Gat_handleEntry_41 : decode b_Gat_handleEntry 41 = .ok (.iload_n 3, 1) := by decide +kernel
theorem d_Gat_handleEntry_42 : decode b_Gat_handleEntry 42 = .ok (.iconst (-1), 1) := by decide +kernel
theorem d_Gat_handleEntry_43 : decode b_Gat_handleEntry 43 = .ok (.if_icmp .eq 50, 3) := by decide +kernel
theorem d_Gat_handleEntry_46 : decode b_Gat_handleEntry 46 = .ok (.aload_n 0, 1) := by decide +kernel
theorem d_Gat_handleEntry_47 : decode b_Gat_handleEntry 47 = .ok (.getfield 30, 3) := by decide +kernel
theorem d_Gat_handleEntry_50 : decode b_Gat_handleEntry 50 = .ok (.iload_n 3, 1) := by decide +kernel
theorem d_Gat_handleEntry_51 : decode b_Gat_handleEntry 51 = .ok (.invokevirtual 88, 3) := by decide +kernel
theorem d_Gat_handleEntry_54 : decode b_Gat_handleEntry 54 = .ok (.ifCond .ne 39, 3) := by decide +kernel
theorem d_Gat_handleEntry_57 : decode b_Gat_handleEntry 57 = .ok (.aload_n 0, 1) := by decide +kernel
theorem d_Gat_handleEntry_58 : decode b_Gat_handleEntry 58 = .ok (.getfield 30, 3) := by decide +kernel
theorem d_Gat_handleEntry_61 : decode b_Gat_handleEntry 61 = .ok (.iload_n 3, 1) := by decide +kernel
theorem d_Gat_handleEntry_62 : decode b_Gat_handleEntry 62 = .ok (.invokevirtual 92, 3) := by decide +kernel
theorem d_Gat_handleEntry_65 : decode b_Gat_handleEntry 65 = .ok (.pop, 1) := by decide +kernel
theorem d_Gat_handleEntry_66 : decode b_Gat_handleEntry 66 = .ok (.iload_n 2, 1) := by decide +kernel
theorem d_Gat_handleEntry_67 : decode b_Gat_handleEntry 67 = .ok (.aload_n 0, 1) := by decide +kernel
theorem d_Gat_handleEntry_68 : decode b_Gat_handleEntry 68 = .ok (.getfield 37, 3) := by decide +kernel
theorem d_Gat_handleEntry_71 : decode b_Gat_handleEntry 71 = .ok (.if_icmp .ge 22, 3) := by decide +kernel
theorem d_Gat_handleEntry_74 : decode b_Gat_handleEntry 74 = .ok (.aload_n 0, 1) := by decide +kernel
theorem d_Gat_handleEntry_75 : decode b_Gat_handleEntry 75 = .ok (.aload_n 0, 1) := by decide +kernel
theorem d_Gat_handleEntry_76 : decode b_Gat_handleEntry 76 = .ok (.getfield 9, 3) := by decide +kernel
theorem d_Gat_handleEntry_79 : decode b_Gat_handleEntry 79 = .ok (.getfield 95, 3) := by decide +kernel
theorem d_Gat_handleEntry_82 : decode b_Gat_handleEntry 82 = .ok (.iload_n 3, 1) := by decide +kernel
theorem d_Gat_handleEntry_83 : decode b_Gat_handleEntry 83 = .ok (.aaload, 1) := by decide +kernel
theorem d_Gat_handleEntry_84 : decode b_Gat_handleEntry 84 = .ok (.getfield 99, 3) := by decide +kernel
theorem d_Gat_handleEntry_87 : decode b_Gat_handleEntry 87 = .ok (.iload_n 2, 1) := by decide +kernel
theorem d_Gat_handleEntry_88 : decode b_Gat_handleEntry 88 = .ok (.iconst 1, 1) := by decide +kernel
theorem d_Gat_handleEntry_89 : decode b_Gat_handleEntry 89 = .ok (.iadd, 1) := by decide +kernel
theorem d_Gat_handleEntry_90 : decode b_Gat_handleEntry 90 = .ok (.invokevirtual 70, 3) := by decide +kernel
theorem d_Gat_handleEntry_93 : decode b_Gat_handleEntry 93 = .ok (.aload_n 0, 1) := by decide +kernel
theorem d_Gat_handleEntry_94 : decode b_Gat_handleEntry 94 = .ok (.getfield 53, 3) := by decide +kernel
theorem d_Gat_handleEntry_97 : decode b_Gat_handleEntry 97 = .ok (.aload_n 0, 1) := by decide +kernel
theorem d_Gat_handleEntry_98 : decode b_Gat_handleEntry 98 = .ok (.getfield 104, 3) := by decide +kernel
theorem d_Gat_handleEntry_101 : decode b_Gat_handleEntry 101 = .ok (.isub, 1) := by decide +kernel
theorem d_Gat_handleEntry_102 : decode b_Gat_handleEntry 102 = .ok (.aload_n 0, 1) := by decide +kernel
theorem d_Gat_handleEntry_103 : decode b_Gat_handleEntry 103 = .ok (.getfield 47, 3) := by decide +kernel
theorem d_Gat_handleEntry_106 : decode b_Gat_handleEntry 106 = .ok (.if_icmp .ne 7, 3) := by decide +kernel
theorem d_Gat_handleEntry_109 : decode b_Gat_handleEntry 109 = .ok (.aload_n 0, 1) := by decide +kernel
theorem d_Gat_handleEntry_110 : decode b_Gat_handleEntry 110 = .ok (.invokevirtual 74, 3) := by decide +kernel
theorem d_Gat_handleEntry_113 : decode b_Gat_handleEntry 113 = .ok (.return_, 1) := by decide +kernel
theorem d_Gat_chase_0 : decode b_Gat_chase 0 = .ok (.iload_n 1, 1) := by decide +kernel
theorem d_Gat_chase_1 : decode b_Gat_chase 1 = .ok (.istore_n 3, 1) := by decide +kernel
theorem d_Gat_chase_2 : decode b_Gat_chase 2 = .ok (.iconst 0, 1) := by decide +kernel
theorem d_Gat_chase_3 : decode b_Gat_chase 3 = .ok (.istore 4, 2) := by decide +kernel
theorem d_Gat_chase_5 : decode b_Gat_chase 5 = .ok (.iload 4, 2) := by decide +kernel
theorem d_Gat_chase_7 : decode b_Gat_chase 7 = .ok (.aload_n 0, 1) := by decide +kernel
theorem d_Gat_chase_8 : decode b_Gat_chase 8 = .ok (.getfield 41, 3) := by decide +kernel
theorem d_Gat_chase_11 : decode b_Gat_chase 11 = .ok (.if_icmp .gt 72, 3) := by decide +kernel
theorem d_Gat_chase_14 : decode b_Gat_chase 14 = .ok (.aload_n 0, 1) := by decide +kernel
theorem d_Gat_chase_15 : decode b_Gat_chase 15 = .ok (.getfield 9, 3) := by decide +kernel
theorem d_Gat_chase_18 : decode b_Gat_chase 18 = .ok (.iload_n 3, 1) := by decide +kernel
theorem d_Gat_chase_19 : decode b_Gat_chase 19 = .ok (.invokevirtual 107, 3) := by decide +kernel
theorem d_Gat_chase_22 : decode b_Gat_chase 22 = .ok (.ifCond .eq 61, 3) := by decide +kernel
theorem d_Gat_chase_25 : decode b_Gat_chase 25 = .ok (.iload_n 2, 1) := by decide +kernel
theorem d_Gat_chase_26 : decode b_Gat_chase 26 = .ok (.ifCond .eq 8, 3) := by decide +kernel
theorem d_Gat_chase_29 : decode b_Gat_chase 29 = .ok (.aload_n 0, 1) := by decide +kernel
theorem d_Gat_chase_30 : decode b_Gat_chase 30 = .ok (.iload_n 3, 1) := by decide +kernel
theorem d_Gat_chase_31 : decode b_Gat_chase 31 = .ok (.invokevirtual 110, 3) := by decide +kernel
theorem d_Gat_chase_34 : decode b_Gat_chase 34 = .ok (.aload_n 0, 1) := by decide +kernel
theorem d_Gat_chase_35 : decode b_Gat_chase 35 = .ok (.getfield 9, 3) := by decide +kernel
theorem d_Gat_chase_38 : decode b_Gat_chase 38 = .ok (.getfield 95, 3) := by decide +kernel
theorem d_Gat_chase_41 : decode b_Gat_chase 41 = .ok (.iload_n 3, 1) := by decide +kernel
theorem d_Gat_chase_42 : decode b_Gat_chase 42 = .ok (.aaload, 1) := by decide +kernel
theorem d_Gat_chase_43 : decode b_Gat_chase 43 = .ok (.astore 5, 2) := by decide +kernel
theorem d_Gat_chase_45 : decode b_Gat_chase 45 = .ok (.aload 5, 2) := by decide +kernel
theorem d_Gat_chase_47 : decode b_Gat_chase 47 = .ok (.getfield 113, 3) := by decide +kernel
theorem d_Gat_chase_50 : decode b_Gat_chase 50 = .ok (.getstatic 117, 3) := by decide +kernel
theorem d_Gat_chase_53 : decode b_Gat_chase 53 = .ok (.if_acmp .ne 5, 3) := by decide +kernel
theorem d_Gat_chase_56 : decode b_Gat_chase 56 = .ok (.iload_n 3, 1) := by decide +kernel
theorem d_Gat_chase_57 : decode b_Gat_chase 57 = .ok (.ireturn, 1) := by decide +kernel
theorem d_Gat_chase_58 : decode b_Gat_chase 58 = .ok (.aload 5, 2) := by decide +kernel
theorem d_Gat_chase_60 : decode b_Gat_chase 60 = .ok (.getfield 113, 3) := by decide +kernel
theorem d_Gat_chase_63 : decode b_Gat_chase 63 = .ok (.getstatic 122, 3) := by decide +kernel
theorem d_Gat_chase_66 : decode b_Gat_chase 66 = .ok (.if_acmp .ne 5, 3) := by decide +kernel
theorem d_Gat_chase_69 : decode b_Gat_chase 69 = .ok (.iconst (-1), 1) := by decide +kernel
theorem d_Gat_chase_70 : decode b_Gat_chase 70 = .ok (.ireturn, 1) := by decide +kernel
theorem d_Gat_chase_71 : decode b_Gat_chase 71 = .ok (.aload 5, 2) := by decide +kernel
theorem d_Gat_chase_73 : decode b_Gat_chase 73 = .ok (.getfield 125, 3) := by decide +kernel
theorem d_Gat_chase_76 : decode b_Gat_chase 76 = .ok (.istore_n 3, 1) := by decide +kernel
theorem d_Gat_chase_77 : decode b_Gat_chase 77 = .ok (.iinc 4 1, 3) := by decide +kernel
theorem d_Gat_chase_80 : decode b_Gat_chase 80 = .ok (.goto (-75), 3) := by decide +kernel
theorem d_Gat_chase_83 : decode b_Gat_chase 83 = .ok (.iconst (-1), 1) := by decide +kernel
theorem d_Gat_chase_84 : decode b_Gat_chase 84 = .ok (.ireturn, 1) := by decide +kernel
theorem d_Gat_fallBack_0 : decode b_Gat_fallBack 0 = .ok (.aload_n 0, 1) := by decide +kernel
theorem d_Gat_fallBack_1 : decode b_Gat_fallBack 1 = .ok (.getfield 53, 3) := by decide +kernel
theorem d_Gat_fallBack_4 : decode b_Gat_fallBack 4 = .ok (.aload_n 0, 1) := by decide +kernel
theorem d_Gat_fallBack_5 : decode b_Gat_fallBack 5 = .ok (.getfield 104, 3) := by decide +kernel
theorem d_Gat_fallBack_8 : decode b_Gat_fallBack 8 = .ok (.isub, 1) := by decide +kernel
theorem d_Gat_fallBack_9 : decode b_Gat_fallBack 9 = .ok (.istore_n 1, 1) := by decide +kernel
theorem d_Gat_fallBack_10 : decode b_Gat_fallBack 10 = .ok (.aload_n 0, 1) := by decide +kernel
theorem d_Gat_fallBack_11 : decode b_Gat_fallBack 11 = .ok (.aload_n 0, 1) := by decide +kernel
theorem d_Gat_fallBack_12 : decode b_Gat_fallBack 12 = .ok (.getfield 104, 3) := by decide +kernel
theorem d_Gat_fallBack_15 : decode b_Gat_fallBack 15 = .ok (.putfield 53, 3) := by decide +kernel
theorem d_Gat_fallBack_18 : decode b_Gat_fallBack 18 = .ok (.aload_n 0, 1) := by decide +kernel
theorem d_Gat_fallBack_19 : decode b_Gat_fallBack 19 = .ok (.getfield 20, 3) := by decide +kernel
theorem d_Gat_fallBack_22 : decode b_Gat_fallBack 22 = .ok (.aload_n 0, 1) := by decide +kernel
theorem d_Gat_fallBack_23 : decode b_Gat_fallBack 23 = .ok (.getfield 128, 3) := by decide +kernel
theorem d_Gat_fallBack_26 : decode b_Gat_fallBack 26 = .ok (.invokevirtual 50, 3) := by decide +kernel
theorem d_Gat_fallBack_29 : decode b_Gat_fallBack 29 = .ok (.aload_n 0, 1) := by decide +kernel
theorem d_Gat_fallBack_30 : decode b_Gat_fallBack 30 = .ok (.getfield 24, 3) := by decide +kernel
theorem d_Gat_fallBack_33 : decode b_Gat_fallBack 33 = .ok (.aload_n 0, 1) := by decide +kernel
theorem d_Gat_fallBack_34 : decode b_Gat_fallBack 34 = .ok (.getfield 128, 3) := by decide +kernel
theorem d_Gat_fallBack_37 : decode b_Gat_fallBack 37 = .ok (.invokevirtual 50, 3) := by decide +kernel
theorem d_Gat_fallBack_40 : decode b_Gat_fallBack 40 = .ok (.aload_n 0, 1) := by decide +kernel
theorem d_Gat_fallBack_41 : decode b_Gat_fallBack 41 = .ok (.getfield 27, 3) := by decide +kernel
theorem d_Gat_fallBack_44 : decode b_Gat_fallBack 44 = .ok (.aload_n 0, 1) := by decide +kernel
theorem d_Gat_fallBack_45 : decode b_Gat_fallBack 45 = .ok (.getfield 131, 3) := by decide +kernel
theorem d_Gat_fallBack_48 : decode b_Gat_fallBack 48 = .ok (.invokevirtual 50, 3) := by decide +kernel
theorem d_Gat_fallBack_51 : decode b_Gat_fallBack 51 = .ok (.aload_n 0, 1) := by decide +kernel
theorem d_Gat_fallBack_52 : decode b_Gat_fallBack 52 = .ok (.getfield 30, 3) := by decide +kernel
theorem d_Gat_fallBack_55 : decode b_Gat_fallBack 55 = .ok (.aload_n 0, 1) := by decide +kernel
theorem d_Gat_fallBack_56 : decode b_Gat_fallBack 56 = .ok (.getfield 134, 3) := by decide +kernel
theorem d_Gat_fallBack_59 : decode b_Gat_fallBack 59 = .ok (.invokevirtual 50, 3) := by decide +kernel
theorem d_Gat_fallBack_62 : decode b_Gat_fallBack 62 = .ok (.aload_n 0, 1) := by decide +kernel
theorem d_Gat_fallBack_63 : decode b_Gat_fallBack 63 = .ok (.aload_n 0, 1) := by decide +kernel
theorem d_Gat_fallBack_64 : decode b_Gat_fallBack 64 = .ok (.getfield 56, 3) := by decide +kernel
theorem d_Gat_fallBack_67 : decode b_Gat_fallBack 67 = .ok (.aload_n 0, 1) := by decide +kernel
theorem d_Gat_fallBack_68 : decode b_Gat_fallBack 68 = .ok (.getfield 44, 3) := by decide +kernel
theorem d_Gat_fallBack_71 : decode b_Gat_fallBack 71 = .ok (.iadd, 1) := by decide +kernel
theorem d_Gat_fallBack_72 : decode b_Gat_fallBack 72 = .ok (.invokevirtual 62, 3) := by decide +kernel
theorem d_Gat_fallBack_75 : decode b_Gat_fallBack 75 = .ok (.iload_n 1, 1) := by decide +kernel
theorem d_Gat_fallBack_76 : decode b_Gat_fallBack 76 = .ok (.ireturn, 1) := by decide +kernel
theorem d_Gat_fetch_0 : decode b_Gat_fetch 0 = .ok (.aload_n 0, 1) := by decide +kernel
theorem d_Gat_fetch_1 : decode b_Gat_fetch 1 = .ok (.getfield 27, 3) := by decide +kernel
theorem d_Gat_fetch_4 : decode b_Gat_fetch 4 = .ok (.iload_n 1, 1) := by decide +kernel
theorem d_Gat_fetch_5 : decode b_Gat_fetch 5 = .ok (.invokevirtual 88, 3) := by decide +kernel
theorem d_Gat_fetch_8 : decode b_Gat_fetch 8 = .ok (.ifCond .eq 4, 3) := by decide +kernel
theorem d_Gat_fetch_11 : decode b_Gat_fetch 11 = .ok (.return_, 1) := by decide +kernel
theorem d_Gat_fetch_12 : decode b_Gat_fetch 12 = .ok (.aload_n 0, 1) := by decide +kernel
theorem d_Gat_fetch_13 : decode b_Gat_fetch 13 = .ok (.getfield 9, 3) := by decide +kernel
theorem d_Gat_fetch_16 : decode b_Gat_fetch 16 = .ok (.getfield 95, 3) := by decide +kernel
theorem d_Gat_fetch_19 : decode b_Gat_fetch 19 = .ok (.iload_n 1, 1) := by decide +kernel
theorem d_Gat_fetch_20 : decode b_Gat_fetch 20 = .ok (.aaload, 1) := by decide +kernel
theorem d_Gat_fetch_21 : decode b_Gat_fetch 21 = .ok (.getfield 137, 3) := by decide +kernel
theorem d_Gat_fetch_24 : decode b_Gat_fetch 24 = .ok (.istore_n 2, 1) := by decide +kernel
theorem d_Gat_fetch_25 : decode b_Gat_fetch 25 = .ok (.aload_n 0, 1) := by decide +kernel
theorem d_Gat_fetch_26 : decode b_Gat_fetch 26 = .ok (.getfield 56, 3) := by decide +kernel
theorem d_Gat_fetch_29 : decode b_Gat_fetch 29 = .ok (.aload_n 0, 1) := by decide +kernel
theorem d_Gat_fetch_30 : decode b_Gat_fetch 30 = .ok (.getfield 33, 3) := by decide +kernel
theorem d_Gat_fetch_33 : decode b_Gat_fetch 33 = .ok (.iload_n 2, 1) := by decide +kernel
theorem d_Gat_fetch_34 : decode b_Gat_fetch 34 = .ok (.iaload, 1) := by decide +kernel
theorem d_Gat_fetch_35 : decode b_Gat_fetch 35 = .ok (.invokestatic 140, 3) := by decide +kernel
theorem d_Gat_fetch_38 : decode b_Gat_fetch 38 = .ok (.istore_n 3, 1) := by decide +kernel
theorem d_Gat_fetch_39 : decode b_Gat_fetch 39 = .ok (.aload_n 0, 1) := by decide +kernel
theorem d_Gat_fetch_40 : decode b_Gat_fetch 40 = .ok (.getfield 33, 3) := by decide +kernel
theorem d_Gat_fetch_43 : decode b_Gat_fetch 43 = .ok (.iload_n 2, 1) := by decide +kernel
theorem d_Gat_fetch_44 : decode b_Gat_fetch 44 = .ok (.iload_n 3, 1) := by decide +kernel
theorem d_Gat_fetch_45 : decode b_Gat_fetch 45 = .ok (.aload_n 0, 1) := by decide +kernel
theorem d_Gat_fetch_46 : decode b_Gat_fetch 46 = .ok (.getfield 44, 3) := by decide +kernel
theorem d_Gat_fetch_49 : decode b_Gat_fetch 49 = .ok (.iadd, 1) := by decide +kernel
theorem d_Gat_fetch_50 : decode b_Gat_fetch 50 = .ok (.iastore, 1) := by decide +kernel
theorem d_Gat_fetch_51 : decode b_Gat_fetch 51 = .ok (.aload_n 0, 1) := by decide +kernel
theorem d_Gat_fetch_52 : decode b_Gat_fetch 52 = .ok (.iload_n 3, 1) := by decide +kernel
theorem d_Gat_fetch_53 : decode b_Gat_fetch 53 = .ok (.iconst 1, 1) := by decide +kernel
theorem d_Gat_fetch_54 : decode b_Gat_fetch 54 = .ok (.iadd, 1) := by decide +kernel
theorem d_Gat_fetch_55 : decode b_Gat_fetch 55 = .ok (.putfield 56, 3) := by decide +kernel
theorem d_Gat_fetch_58 : decode b_Gat_fetch 58 = .ok (.aload_n 0, 1) := by decide +kernel
theorem d_Gat_fetch_59 : decode b_Gat_fetch 59 = .ok (.getfield 27, 3) := by decide +kernel
theorem d_Gat_fetch_62 : decode b_Gat_fetch 62 = .ok (.iload_n 1, 1) := by decide +kernel
theorem d_Gat_fetch_63 : decode b_Gat_fetch 63 = .ok (.invokevirtual 92, 3) := by decide +kernel
theorem d_Gat_fetch_66 : decode b_Gat_fetch 66 = .ok (.pop, 1) := by decide +kernel
theorem d_Gat_fetch_67 : decode b_Gat_fetch 67 = .ok (.aload_n 0, 1) := by decide +kernel
theorem d_Gat_fetch_68 : decode b_Gat_fetch 68 = .ok (.dup, 1) := by decide +kernel
theorem d_Gat_fetch_69 : decode b_Gat_fetch 69 = .ok (.getfield 59, 3) := by decide +kernel
theorem d_Gat_fetch_72 : decode b_Gat_fetch 72 = .ok (.iconst 1, 1) := by decide +kernel
theorem d_Gat_fetch_73 : decode b_Gat_fetch 73 = .ok (.iadd, 1) := by decide +kernel
theorem d_Gat_fetch_74 : decode b_Gat_fetch 74 = .ok (.putfield 59, 3) := by decide +kernel
theorem d_Gat_fetch_77 : decode b_Gat_fetch 77 = .ok (.return_, 1) := by decide +kernel
theorem d_Gat_enqueueAll_0 : decode b_Gat_enqueueAll 0 = .ok (.iconst 0, 1) := by decide +kernel
theorem d_Gat_enqueueAll_1 : decode b_Gat_enqueueAll 1 = .ok (.istore_n 3, 1) := by decide +kernel
theorem d_Gat_enqueueAll_2 : decode b_Gat_enqueueAll 2 = .ok (.iload_n 3, 1) := by decide +kernel
theorem d_Gat_enqueueAll_3 : decode b_Gat_enqueueAll 3 = .ok (.aload_n 1, 1) := by decide +kernel
theorem d_Gat_enqueueAll_4 : decode b_Gat_enqueueAll 4 = .ok (.getfield 77, 3) := by decide +kernel
theorem d_Gat_enqueueAll_7 : decode b_Gat_enqueueAll 7 = .ok (.if_icmp .ge 47, 3) := by decide +kernel
theorem d_Gat_enqueueAll_10 : decode b_Gat_enqueueAll 10 = .ok (.aload_n 1, 1) := by decide +kernel
theorem d_Gat_enqueueAll_11 : decode b_Gat_enqueueAll 11 = .ok (.iload_n 3, 1) := by decide +kernel
theorem d_Gat_enqueueAll_12 : decode b_Gat_enqueueAll 12 = .ok (.invokevirtual 80, 3) := by decide +kernel
theorem d_Gat_enqueueAll_15 : decode b_Gat_enqueueAll 15 = .ok (.istore 4, 2) := by decide +kernel
theorem d_Gat_enqueueAll_17 : decode b_Gat_enqueueAll 17 = .ok (.aload_n 0, 1) := by decide +kernel
theorem d_Gat_enqueueAll_18 : decode b_Gat_enqueueAll 18 = .ok (.getfield 20, 3) := by decide +kernel
theorem d_Gat_enqueueAll_21 : decode b_Gat_enqueueAll 21 = .ok (.iload 4, 2) := by decide +kernel
theorem d_Gat_enqueueAll_23 : decode b_Gat_enqueueAll 23 = .ok (.invokevirtual 88, 3) := by decide +kernel
theorem d_Gat_enqueueAll_26 : decode b_Gat_enqueueAll 26 = .ok (.ifCond .ne 22, 3) := by decide +kernel
theorem d_Gat_enqueueAll_29 : decode b_Gat_enqueueAll 29 = .ok (.aload_n 0, 1) := by decide +kernel
theorem d_Gat_enqueueAll_30 : decode b_Gat_enqueueAll 30 = .ok (.getfield 20, 3) := by decide +kernel
theorem d_Gat_enqueueAll_33 : decode b_Gat_enqueueAll 33 = .ok (.iload 4, 2) := by decide +kernel
theorem d_Gat_enqueueAll_35 : decode b_Gat_enqueueAll 35 = .ok (.invokevirtual 92, 3) := by decide +kernel
theorem d_Gat_enqueueAll_38 : decode b_Gat_enqueueAll 38 = .ok (.pop, 1) := by decide +kernel
theorem d_Gat_enqueueAll_39 : decode b_Gat_enqueueAll 39 = .ok (.aload_n 0, 1) := by decide +kernel
theorem d_Gat_enqueueAll_40 : decode b_Gat_enqueueAll 40 = .ok (.getfield 24, 3) := by decide +kernel
theorem d_Gat_enqueueAll_43 : decode b_Gat_enqueueAll 43 = .ok (.iload_n 2, 1) := by decide +kernel
theorem d_Gat_enqueueAll_44 : decode b_Gat_enqueueAll 44 = .ok (.invokevirtual 92, 3) := by decide +kernel
theorem d_Gat_enqueueAll_47 : decode b_Gat_enqueueAll 47 = .ok (.pop, 1) := by decide +kernel
theorem d_Gat_enqueueAll_48 : decode b_Gat_enqueueAll 48 = .ok (.iinc 3 1, 3) := by decide +kernel
theorem d_Gat_enqueueAll_51 : decode b_Gat_enqueueAll 51 = .ok (.goto (-49), 3) := by decide +kernel
theorem d_Gat_enqueueAll_54 : decode b_Gat_enqueueAll 54 = .ok (.return_, 1) := by decide +kernel
theorem d_Gat_setAllFrom_0 : decode b_Gat_setAllFrom 0 = .ok (.iconst 0, 1) := by decide +kernel
theorem d_Gat_setAllFrom_1 : decode b_Gat_setAllFrom 1 = .ok (.istore_n 2, 1) := by decide +kernel
theorem d_Gat_setAllFrom_2 : decode b_Gat_setAllFrom 2 = .ok (.iload_n 2, 1) := by decide +kernel
theorem d_Gat_setAllFrom_3 : decode b_Gat_setAllFrom 3 = .ok (.bipush 6, 2) := by decide +kernel
theorem d_Gat_setAllFrom_5 : decode b_Gat_setAllFrom 5 = .ok (.if_icmp .ge 16, 3) := by decide +kernel
theorem d_Gat_setAllFrom_8 : decode b_Gat_setAllFrom 8 = .ok (.aload_n 0, 1) := by decide +kernel
theorem d_Gat_setAllFrom_9 : decode b_Gat_setAllFrom 9 = .ok (.getfield 33, 3) := by decide +kernel
theorem d_Gat_setAllFrom_12 : decode b_Gat_setAllFrom 12 = .ok (.iload_n 2, 1) := by decide +kernel
theorem d_Gat_setAllFrom_13 : decode b_Gat_setAllFrom 13 = .ok (.iload_n 1, 1) := by decide +kernel
theorem d_Gat_setAllFrom_14 : decode b_Gat_setAllFrom 14 = .ok (.iastore, 1) := by decide +kernel
theorem d_Gat_setAllFrom_15 : decode b_Gat_setAllFrom 15 = .ok (.iinc 2 1, 3) := by decide +kernel
theorem d_Gat_setAllFrom_18 : decode b_Gat_setAllFrom 18 = .ok (.goto (-16), 3) := by decide +kernel
theorem d_Gat_setAllFrom_21 : decode b_Gat_setAllFrom 21 = .ok (.return_, 1) := by decide +kernel
theorem d_Gat_setMark_0 : decode b_Gat_setMark 0 = .ok (.aload_n 0, 1) := by decide +kernel
theorem d_Gat_setMark_1 : decode b_Gat_setMark 1 = .ok (.aload_n 0, 1) := by decide +kernel
theorem d_Gat_setMark_2 : decode b_Gat_setMark 2 = .ok (.getfield 53, 3) := by decide +kernel
theorem d_Gat_setMark_5 : decode b_Gat_setMark 5 = .ok (.putfield 104, 3) := by decide +kernel
theorem d_Gat_setMark_8 : decode b_Gat_setMark 8 = .ok (.aload_n 0, 1) := by decide +kernel
theorem d_Gat_setMark_9 : decode b_Gat_setMark 9 = .ok (.aload_n 0, 1) := by decide +kernel
theorem d_Gat_setMark_10 : decode b_Gat_setMark 10 = .ok (.getfield 20, 3) := by decide +kernel
theorem d_Gat_setMark_13 : decode b_Gat_setMark 13 = .ok (.getfield 77, 3) := by decide +kernel
theorem d_Gat_setMark_16 : decode b_Gat_setMark 16 = .ok (.putfield 128, 3) := by decide +kernel
theorem d_Gat_setMark_19 : decode b_Gat_setMark 19 = .ok (.aload_n 0, 1) := by decide +kernel
theorem d_Gat_setMark_20 : decode b_Gat_setMark 20 = .ok (.aload_n 0, 1) := by decide +kernel
theorem d_Gat_setMark_21 : decode b_Gat_setMark 21 = .ok (.getfield 27, 3) := by decide +kernel
theorem d_Gat_setMark_24 : decode b_Gat_setMark 24 = .ok (.getfield 77, 3) := by decide +kernel
theorem d_Gat_setMark_27 : decode b_Gat_setMark 27 = .ok (.putfield 131, 3) := by decide +kernel
theorem d_Gat_setMark_30 : decode b_Gat_setMark 30 = .ok (.aload_n 0, 1) := by decide +kernel
theorem d_Gat_setMark_31 : decode b_Gat_setMark 31 = .ok (.aload_n 0, 1) := by decide +kernel
theorem d_Gat_setMark_32 : decode b_Gat_setMark 32 = .ok (.getfield 30, 3) := by decide +kernel
theorem d_Gat_setMark_35 : decode b_Gat_setMark 35 = .ok (.getfield 77, 3) := by decide +kernel
theorem d_Gat_setMark_38 : decode b_Gat_setMark 38 = .ok (.putfield 134, 3) := by decide +kernel
theorem d_Gat_setMark_41 : decode b_Gat_setMark 41 = .ok (.return_, 1) := by decide +kernel
end
section
/-! Decoded instructions of Rank. -/
theorem d_Rank_init_0 : decode b_Rank_init 0 = .ok (.aload_n 0, 1) := by decide +kernel
theorem d_Rank_init_1 : decode b_Rank_init 1 = .ok (.invokespecial 3, 3) := by decide +kernel
theorem d_Rank_init_4 : decode b_Rank_init 4 = .ok (.aload_n 0, 1) := by decide +kernel
theorem d_Rank_init_5 : decode b_Rank_init 5 = .ok (.aload_n 1, 1) := by decide +kernel
theorem d_Rank_init_6 : decode b_Rank_init 6 = .ok (.putfield 9, 3) := by decide +kernel
theorem d_Rank_init_9 : decode b_Rank_init 9 = .ok (.aload_n 0, 1) := by decide +kernel
theorem d_Rank_init_10 : decode b_Rank_init 10 = .ok (.aload_n 2, 1) := by decide +kernel
theorem d_Rank_init_11 : decode b_Rank_init 11 = .ok (.putfield 15, 3) := by decide +kernel
theorem d_Rank_init_14 : decode b_Rank_init 14 = .ok (.aload_n 0, 1) := by decide +kernel
theorem d_Rank_init_15 : decode b_Rank_init 15 = .ok (.new 19, 3) := by decide +kernel
theorem d_Rank_init_18 : decode b_Rank_init 18 = .ok (.dup, 1) := by decide +kernel
theorem d_Rank_init_19 : decode b_Rank_init 19 = .ok (.bipush 32, 2) := by decide +kernel
theorem d_Rank_init_21 : decode b_Rank_init 21 = .ok (.invokespecial 21, 3) := by decide +kernel
theorem d_Rank_init_24 : decode b_Rank_init 24 = .ok (.putfield 24, 3) := by decide +kernel
theorem d_Rank_init_27 : decode b_Rank_init 27 = .ok (.aload_n 0, 1) := by decide +kernel
theorem d_Rank_init_28 : decode b_Rank_init 28 = .ok (.bipush 32, 2) := by decide +kernel
theorem d_Rank_init_30 : decode b_Rank_init 30 = .ok (.iconst 5, 1) := by decide +kernel
theorem d_Rank_init_31 : decode b_Rank_init 31 = .ok (.multianewarray 28 2, 4) := by decide +kernel
theorem d_Rank_init_35 : decode b_Rank_init 35 = .ok (.putfield 30, 3) := by decide +kernel
theorem d_Rank_init_38 : decode b_Rank_init 38 = .ok (.aload_n 0, 1) := by decide +kernel
theorem d_Rank_init_39 : decode b_Rank_init 39 = .ok (.bipush 32, 2) := by decide +kernel
theorem d_Rank_init_41 : decode b_Rank_init 41 = .ok (.newarray .int, 2) := by decide +kernel
theorem d_Rank_init_43 : decode b_Rank_init 43 = .ok (.putfield 33, 3) := by decide +kernel
theorem d_Rank_init_46 : decode b_Rank_init 46 = .ok (.aload_n 0, 1) := by decide +kernel
theorem d_Rank_init_47 : decode b_Rank_init 47 = .ok (.bipush 32, 2) := by decide +kernel
theorem d_Rank_init_49 : decode b_Rank_init 49 = .ok (.newarray .long, 2) := by decide +kernel
theorem d_Rank_init_51 : decode b_Rank_init 51 = .ok (.putfield 37, 3) := by decide +kernel
theorem d_Rank_init_54 : decode b_Rank_init 54 = .ok (.aload_n 0, 1) := by decide +kernel
theorem d_Rank_init_55 : decode b_Rank_init 55 = .ok (.bipush 32, 2) := by decide +kernel
theorem d_Rank_init_57 : decode b_Rank_init 57 = .ok (.newarray .long, 2) := by decide +kernel
theorem d_Rank_init_59 : decode b_Rank_init 59 = .ok (.putfield 41, 3) := by decide +kernel
theorem d_Rank_init_62 : decode b_Rank_init 62 = .ok (.aload_n 0, 1) := by decide +kernel
theorem d_Rank_init_63 : decode b_Rank_init 63 = .ok (.bipush 32, 2) := by decide +kernel
theorem d_Rank_init_65 : decode b_Rank_init 65 = .ok (.newarray .long, 2) := by decide +kernel
theorem d_Rank_init_67 : decode b_Rank_init 67 = .ok (.putfield 44, 3) := by decide +kernel
theorem d_Rank_init_70 : decode b_Rank_init 70 = .ok (.return_, 1) := by decide +kernel
theorem d_Rank_documentOf_0 : decode b_Rank_documentOf 0 = .ok (.aload_n 0, 1) := by decide +kernel
theorem d_Rank_documentOf_1 : decode b_Rank_documentOf 1 = .ok (.getfield 15, 3) := by decide +kernel
theorem d_Rank_documentOf_4 : decode b_Rank_documentOf 4 = .ok (.getfield 47, 3) := by decide +kernel
theorem d_Rank_documentOf_7 : decode b_Rank_documentOf 7 = .ok (.iload_n 1, 1) := by decide +kernel
theorem d_Rank_documentOf_8 : decode b_Rank_documentOf 8 = .ok (.invokevirtual 52, 3) := by decide +kernel
theorem d_Rank_documentOf_11 : decode b_Rank_documentOf 11 = .ok (.ifCond .ne 5, 3) := by decide +kernel
theorem d_Rank_documentOf_14 : decode b_Rank_documentOf 14 = .ok (.iconst (-1), 1) := by decide +kernel
theorem d_Rank_documentOf_15 : decode b_Rank_documentOf 15 = .ok (.ireturn, 1) := by decide +kernel
theorem d_Rank_documentOf_16 : decode b_Rank_documentOf 16 = .ok (.aload_n 0, 1) := by decide +kernel
theorem d_Rank_documentOf_17 : decode b_Rank_documentOf 17 = .ok (.getfield 9, 3) := by decide +kernel
theorem d_Rank_documentOf_20 : decode b_Rank_documentOf 20 = .ok (.getfield 56, 3) := by decide +kernel
theorem d_Rank_documentOf_23 : decode b_Rank_documentOf 23 = .ok (.iload_n 1, 1) := by decide +kernel
theorem d_Rank_documentOf_24 : decode b_Rank_documentOf 24 = .ok (.aaload, 1) := by decide +kernel
theorem d_Rank_documentOf_25 : decode b_Rank_documentOf 25 = .ok (.getfield 62, 3) := by decide +kernel
theorem d_Rank_documentOf_28 : decode b_Rank_documentOf 28 = .ok (.astore_n 2, 1) := by decide +kernel
theorem d_Rank_documentOf_29 : decode b_Rank_documentOf 29 = .ok (.iconst 0, 1) := by decide +kernel
theorem d_Rank_documentOf_30 : decode b_Rank_documentOf 30 = .ok (.istore_n 3, 1) := by decide +kernel
theorem d_Rank_documentOf_31 : decode b_Rank_documentOf 31 = .ok (.iload_n 3, 1) := by decide +kernel
theorem d_Rank_documentOf_32 : decode b_Rank_documentOf 32 = .ok (.aload_n 0, 1) := by decide +kernel
theorem d_Rank_documentOf_33 : decode b_Rank_documentOf 33 = .ok (.getfield 15, 3) := by decide +kernel
theorem d_Rank_documentOf_36 : decode b_Rank_documentOf 36 = .ok (.getfield 47, 3) := by decide +kernel
theorem d_Rank_documentOf_39 : decode b_Rank_documentOf 39 = .ok (.getfield 67, 3) := by decide +kernel
theorem d_Rank_documentOf_42 : decode b_Rank_documentOf 42 = .ok (.if_icmp .ge 45, 3) := by decide +kernel
theorem d_Rank_documentOf_45 : decode b_Rank_documentOf 45 = .ok (.aload_n 0, 1) := by decide +kernel
theorem d_Rank_documentOf_46 : decode b_Rank_documentOf 46 = .ok (.getfield 15, 3) := by decide +kernel
theorem d_Rank_documentOf_49 : decode b_Rank_documentOf 49 = .ok (.getfield 47, 3) := by decide +kernel
theorem d_Rank_documentOf_52 : decode b_Rank_documentOf 52 = .ok (.iload_n 3, 1) := by decide +kernel
theorem d_Rank_documentOf_53 : decode b_Rank_documentOf 53 = .ok (.invokevirtual 71, 3) := by decide +kernel
theorem d_Rank_documentOf_56 : decode b_Rank_documentOf 56 = .ok (.istore 4, 2) := by decide +kernel
theorem d_Rank_documentOf_58 : decode b_Rank_documentOf 58 = .ok (.aload_n 0, 1) := by decide +kernel
theorem d_Rank_documentOf_59 : decode b_Rank_documentOf 59 = .ok (.getfield 9, 3) := by decide +kernel
theorem d_Rank_documentOf_62 : decode b_Rank_documentOf 62 = .ok (.getfield 56, 3) := by decide +kernel
theorem d_Rank_documentOf_65 : decode b_Rank_documentOf 65 = .ok (.iload 4, 2) := by decide +kernel
theorem d_Rank_documentOf_67 : decode b_Rank_documentOf 67 = .ok (.aaload, 1) := by decide +kernel
theorem d_Rank_documentOf_68 : decode b_Rank_documentOf 68 = .ok (.getfield 62, 3) := by decide +kernel
theorem d_Rank_documentOf_71 : decode b_Rank_documentOf 71 = .ok (.aload_n 2, 1) := by decide +kernel
theorem d_Rank_documentOf_72 : decode b_Rank_documentOf 72 = .ok (.invokevirtual 75, 3) := by decide +kernel
theorem d_Rank_documentOf_75 : decode b_Rank_documentOf 75 = .ok (.ifCond .eq 6, 3) := by decide +kernel
theorem d_Rank_documentOf_78 : decode b_Rank_documentOf 78 = .ok (.iload 4, 2) := by decide +kernel
theorem d_Rank_documentOf_80 : decode b_Rank_documentOf 80 = .ok (.ireturn, 1) := by decide +kernel
theorem d_Rank_documentOf_81 : decode b_Rank_documentOf 81 = .ok (.iinc 3 1, 3) := by decide +kernel
theorem d_Rank_documentOf_84 : decode b_Rank_documentOf 84 = .ok (.goto (-53), 3) := by decide +kernel
theorem d_Rank_documentOf_87 : decode b_Rank_documentOf 87 = .ok (.iconst (-1), 1) := by decide +kernel
theorem d_Rank_documentOf_88 : decode b_Rank_documentOf 88 = .ok (.ireturn, 1) := by decide +kernel
theorem d_Rank_isDocument_0 : decode b_Rank_isDocument 0 = .ok (.iload_n 1, 1) := by decide +kernel
theorem d_Rank_isDocument_1 : decode b_Rank_isDocument 1 = .ok (.iconst (-1), 1) := by decide +kernel
theorem d_Rank_isDocument_2 : decode b_Rank_isDocument 2 = .ok (.if_icmp .eq 16, 3) := by decide +kernel
theorem d_Rank_isDocument_5 : decode b_Rank_isDocument 5 = .ok (.aload_n 0, 1) := by decide +kernel
theorem d_Rank_isDocument_6 : decode b_Rank_isDocument 6 = .ok (.iload_n 1, 1) := by decide +kernel
theorem d_Rank_isDocument_7 : decode b_Rank_isDocument 7 = .ok (.invokevirtual 79, 3) := by decide +kernel
theorem d_Rank_isDocument_10 : decode b_Rank_isDocument 10 = .ok (.iload_n 1, 1) := by decide +kernel
theorem d_Rank_isDocument_11 : decode b_Rank_isDocument 11 = .ok (.if_icmp .ne 7, 3) := by decide +kernel
theorem d_Rank_isDocument_14 : decode b_Rank_isDocument 14 = .ok (.iconst 1, 1) := by decide +kernel
theorem d_Rank_isDocument_15 : decode b_Rank_isDocument 15 = .ok (.goto 4, 3) := by decide +kernel
theorem d_Rank_isDocument_18 : decode b_Rank_isDocument 18 = .ok (.iconst 0, 1) := by decide +kernel
theorem d_Rank_isDocument_19 : decode b_Rank_isDocument 19 = .ok (.ireturn, 1) := by decide +kernel
theorem d_Rank_computeRanks_0 : decode b_Rank_computeRanks 0 = .ok (.aload_n 0, 1) := by decide +kernel
theorem d_Rank_computeRanks_1 : decode b_Rank_computeRanks 1 = .ok (.invokevirtual 82, 3) := by decide +kernel
theorem d_Rank_computeRanks_4 : decode b_Rank_computeRanks 4 = .ok (.iconst 0, 1) := by decide +kernel
theorem d_Rank_computeRanks_5 : decode b_Rank_computeRanks 5 = .ok (.istore_n 2, 1) := by decide +kernel
theorem d_Rank_computeRanks_6 : decode b_Rank_computeRanks 6 = .ok (.iload_n 2, 1) := by decide +kernel
theorem d_Rank_computeRanks_7 : decode b_Rank_computeRanks 7 = .ok (.aload_n 0, 1) := by decide +kernel
theorem d_Rank_computeRanks_8 : decode b_Rank_computeRanks 8 = .ok (.getfield 24, 3) := by decide +kernel
theorem d_Rank_computeRanks_11 : decode b_Rank_computeRanks 11 = .ok (.getfield 67, 3) := by decide +kernel
theorem d_Rank_computeRanks_14 : decode b_Rank_computeRanks 14 = .ok (.if_icmp .ge 32, 3) := by decide +kernel
theorem d_Rank_computeRanks_17 : decode b_Rank_computeRanks 17 = .ok (.aload_n 0, 1) := by decide +kernel
theorem d_Rank_computeRanks_18 : decode b_Rank_computeRanks 18 = .ok (.getfield 24, 3) := by decide +kernel
theorem d_Rank_computeRanks_21 : decode b_Rank_computeRanks 21 = .ok (.iload_n 2, 1) := by decide +kernel
theorem d_Rank_computeRanks_22 : decode b_Rank_computeRanks 22 = .ok (.invokevirtual 71, 3) := by decide +kernel
theorem d_Rank_computeRanks_25 : decode b_Rank_computeRanks 25 = .ok (.istore_n 3, 1) := by decide +kernel
theorem d_Rank_computeRanks_26 : decode b_Rank_computeRanks 26 = .ok (.aload_n 0, 1) := by decide +kernel
theorem d_Rank_computeRanks_27 : decode b_Rank_computeRanks 27 = .ok (.getfield 37, 3) := by decide +kernel
theorem d_Rank_computeRanks_30 : decode b_Rank_computeRanks 30 = .ok (.iload_n 3, 1) := by decide +kernel
theorem d_Rank_computeRanks_31 : decode b_Rank_computeRanks 31 = .ok (.ldc2_w 85, 3) := by decide +kernel
theorem d_Rank_computeRanks_34 : decode b_Rank_computeRanks 34 = .ok (.lastore, 1) := by decide +kernel
theorem d_Rank_computeRanks_35 : decode b_Rank_computeRanks 35 = .ok (.aload_n 0, 1) := by decide +kernel
theorem d_Rank_computeRanks_36 : decode b_Rank_computeRanks 36 = .ok (.iload_n 3, 1) := by decide +kernel
theorem d_Rank_computeRanks_37 : decode b_Rank_computeRanks 37 = .ok (.invokevirtual 87, 3) := by decide +kernel
theorem d_Rank_computeRanks_40 : decode b_Rank_computeRanks 40 = .ok (.iinc 2 1, 3) := by decide +kernel
theorem d_Rank_computeRanks_43 : decode b_Rank_computeRanks 43 = .ok (.goto (-37), 3) := by decide +kernel
theorem d_Rank_computeRanks_46 : decode b_Rank_computeRanks 46 = .ok (.iconst 0, 1) := by decide +kernel
theorem d_Rank_computeRanks_47 : decode b_Rank_computeRanks 47 = .ok (.istore_n 2, 1) := by decide +kernel
theorem d_Rank_computeRanks_48 : decode b_Rank_computeRanks 48 = .ok (.iload_n 2, 1) := by decide +kernel
theorem d_Rank_computeRanks_49 : decode b_Rank_computeRanks 49 = .ok (.iload_n 1, 1) := by decide +kernel
theorem d_Rank_computeRanks_50 : decode b_Rank_computeRanks 50 = .ok (.if_icmp .ge 13, 3) := by decide +kernel
theorem d_Rank_computeRanks_53 : decode b_Rank_computeRanks 53 = .ok (.aload_n 0, 1) := by decide +kernel
theorem d_Rank_computeRanks_54 : decode b_Rank_computeRanks 54 = .ok (.invokevirtual 90, 3) := by decide +kernel
theorem d_Rank_computeRanks_57 : decode b_Rank_computeRanks 57 = .ok (.iinc 2 1, 3) := by decide +kernel
theorem d_Rank_computeRanks_60 : decode b_Rank_computeRanks 60 = .ok (.goto (-12), 3) := by decide +kernel
theorem d_Rank_computeRanks_63 : decode b_Rank_computeRanks 63 = .ok (.return_, 1) := by decide +kernel
theorem d_Rank_computeScores_0 : decode b_Rank_computeScores 0 = .ok (.iconst 0, 1) := by decide +kernel
theorem d_Rank_computeScores_1 : decode b_Rank_computeScores 1 = .ok (.istore_n 3, 1) := by decide +kernel
theorem d_Rank_computeScores_2 : decode b_Rank_computeScores 2 = .ok (.iload_n 3, 1) := by decide +kernel
theorem d_Rank_computeScores_3 : decode b_Rank_computeScores 3 = .ok (.aload_n 0, 1) := by decide +kernel
theorem d_Rank_computeScores_4 : decode b_Rank_computeScores 4 = .ok (.getfield 24, 3) := by decide +kernel
theorem d_Rank_computeScores_7 : decode b_Rank_computeScores 7 = .ok (.getfield 67, 3) := by decide +kernel
theorem d_Rank_computeScores_10 : decode b_Rank_computeScores 10 = .ok (.if_icmp .ge 50, 3) := by decide +kernel
theorem d_Rank_computeScores_13 : decode b_Rank_computeScores 13 = .ok (.aload_n 0, 1) := by decide +kernel
theorem d_Rank_computeScores_14 : decode b_Rank_computeScores 14 = .ok (.getfield 24, 3) := by decide +kernel
theorem d_Rank_computeScores_17 : decode b_Rank_computeScores 17 = .ok (.iload_n 3, 1) := by decide +kernel
theorem d_Rank_computeScores_18 : decode b_Rank_computeScores 18 = .ok (.invokevirtual 71, 3) := by decide +kernel
theorem d_Rank_computeScores_21 : decode b_Rank_computeScores 21 = .ok (.istore 4, 2) := by decide +kernel
theorem d_Rank_computeScores_23 : decode b_Rank_computeScores 23 = .ok (.aload_n 0, 1) := by decide +kernel
theorem d_Rank_computeScores_24 : decode b_Rank_computeScores 24 = .ok (.getfield 44, 3) := by decide +kernel
theorem d_Rank_computeScores_27 : decode b_Rank_computeScores 27 = .ok (.iload 4, 2) := by decide +kernel
theorem d_Rank_computeScores_29 : decode b_Rank_computeScores 29 = .ok (.aload_n 0, 1) := by decide +kernel
theorem d_Rank_computeScores_30 : decode b_Rank_computeScores 30 = .ok (.getfield 9, 3) := by decide +kernel
theorem d_Rank_computeScores_33 : decode b_Rank_computeScores 33 = .ok (.getfield 56, 3) := by decide +kernel
theorem d_Rank_computeScores_36 : decode b_Rank_computeScores 36 = .ok (.iload 4, 2) := by decide +kernel
theorem d_Rank_computeScores_38 : decode b_Rank_computeScores 38 = .ok (.aaload, 1) := by decide +kernel
theorem d_Rank_computeScores_39 : decode b_Rank_computeScores 39 = .ok (.iload_n 1, 1) := by decide +kernel
theorem d_Rank_computeScores_40 : decode b_Rank_computeScores 40 = .ok (.iload_n 2, 1) := by decide +kernel
theorem d_Rank_computeScores_41 : decode b_Rank_computeScores 41 = .ok (.invokevirtual 93, 3) := by decide +kernel
theorem d_Rank_computeScores_44 : decode b_Rank_computeScores 44 = .ok (.i2l, 1) := by decide +kernel
theorem d_Rank_computeScores_45 : decode b_Rank_computeScores 45 = .ok (.aload_n 0, 1) := by decide +kernel
theorem d_Rank_computeScores_46 : decode b_Rank_computeScores 46 = .ok (.getfield 37, 3) := by decide +kernel
theorem d_Rank_computeScores_49 : decode b_Rank_computeScores 49 = .ok (.iload 4, 2) := by decide +kernel
theorem d_Rank_computeScores_51 : decode b_Rank_computeScores 51 = .ok (.laload, 1) := by decide +kernel
theorem d_Rank_computeScores_52 : decode b_Rank_computeScores 52 = .ok (.lmul, 1) := by decide +kernel
theorem d_Rank_computeScores_53 : decode b_Rank_computeScores 53 = .ok (.lastore, 1) := by decide +kernel
theorem d_Rank_computeScores_54 : decode b_Rank_computeScores 54 = .ok (.iinc 3 1, 3) := by decide +kernel
theorem d_Rank_computeScores_57 : decode b_Rank_computeScores 57 = .ok (.goto (-55), 3) := by decide +kernel
theorem d_Rank_computeScores_60 : decode b_Rank_computeScores 60 = .ok (.return_, 1) := by decide +kernel
theorem d_Rank_documentAtPlace_0 : decode b_Rank_documentAtPlace 0 = .ok (.iconst 0, 1) := by decide +kernel
theorem d_Rank_documentAtPlace_1 : decode b_Rank_documentAtPlace 1 = .ok (.istore_n 2, 1) := by decide +kernel
theorem d_Rank_documentAtPlace_2 : decode b_Rank_documentAtPlace 2 = .ok (.iload_n 2, 1) := by decide +kernel
theorem d_Rank_documentAtPlace_3 : decode b_Rank_documentAtPlace 3 = .ok (.aload_n 0, 1) := by decide +kernel
theorem d_Rank_documentAtPlace_4 : decode b_Rank_documentAtPlace 4 = .ok (.getfield 24, 3) := by decide +kernel
theorem d_Rank_documentAtPlace_7 : decode b_Rank_documentAtPlace 7 = .ok (.getfield 67, 3) := by decide +kernel
theorem d_Rank_documentAtPlace_10 : decode b_Rank_documentAtPlace 10 = .ok (.if_icmp .ge 40, 3) := by decide +kernel
theorem d_Rank_documentAtPlace_13 : decode b_Rank_documentAtPlace 13 = .ok (.aload_n 0, 1) := by decide +kernel
theorem d_Rank_documentAtPlace_14 : decode b_Rank_documentAtPlace 14 = .ok (.getfield 24, 3) := by decide +kernel
theorem d_Rank_documentAtPlace_17 : decode b_Rank_documentAtPlace 17 = .ok (.iload_n 2, 1) := by decide +kernel
theorem d_Rank_documentAtPlace_18 : decode b_Rank_documentAtPlace 18 = .ok (.invokevirtual 71, 3) := by decide +kernel
theorem d_Rank_documentAtPlace_21 : decode b_Rank_documentAtPlace 21 = .ok (.istore_n 3, 1) := by decide +kernel
theorem d_Rank_documentAtPlace_22 : decode b_Rank_documentAtPlace 22 = .ok (.aload_n 0, 1) := by decide +kernel
theorem d_Rank_documentAtPlace_23 : decode b_Rank_documentAtPlace 23 = .ok (.getfield 44, 3) := by decide +kernel
theorem d_Rank_documentAtPlace_26 : decode b_Rank_documentAtPlace 26 = .ok (.iload_n 3, 1) := by decide +kernel
theorem d_Rank_documentAtPlace_27 : decode b_Rank_documentAtPlace 27 = .ok (.laload, 1) := by decide +kernel
theorem d_Rank_documentAtPlace_28 : decode b_Rank_documentAtPlace 28 = .ok (.lconst 0, 1) := by decide +kernel
theorem d_Rank_documentAtPlace_29 : decode b_Rank_documentAtPlace 29 = .ok (.lcmp, 1) := by decide +kernel
theorem d_Rank_documentAtPlace_30 : decode b_Rank_documentAtPlace 30 = .ok (.ifCond .le 14, 3) := by decide +kernel
theorem d_Rank_documentAtPlace_33 : decode b_Rank_documentAtPlace 33 = .ok (.aload_n 0, 1) := by decide +kernel
theorem d_Rank_documentAtPlace_34 : decode b_Rank_documentAtPlace 34 = .ok (.iload_n 3, 1) := by decide +kernel
theorem d_Rank_documentAtPlace_35 : decode b_Rank_documentAtPlace 35 = .ok (.invokevirtual 97, 3) := by decide +kernel
theorem d_Rank_documentAtPlace_38 : decode b_Rank_documentAtPlace 38 = .ok (.iload_n 1, 1) := by decide +kernel
theorem d_Rank_documentAtPlace_39 : decode b_Rank_documentAtPlace 39 = .ok (.if_icmp .ne 5, 3) := by decide +kernel
theorem d_Rank_documentAtPlace_42 : decode b_Rank_documentAtPlace 42 = .ok (.iload_n 3, 1) := by decide +kernel
theorem d_Rank_documentAtPlace_43 : decode b_Rank_documentAtPlace 43 = .ok (.ireturn, 1) := by decide +kernel
theorem d_Rank_documentAtPlace_44 : decode b_Rank_documentAtPlace 44 = .ok (.iinc 2 1, 3) := by decide +kernel
theorem d_Rank_documentAtPlace_47 : decode b_Rank_documentAtPlace 47 = .ok (.goto (-45), 3) := by decide +kernel
theorem d_Rank_documentAtPlace_50 : decode b_Rank_documentAtPlace 50 = .ok (.iconst (-1), 1) := by decide +kernel
theorem d_Rank_documentAtPlace_51 : decode b_Rank_documentAtPlace 51 = .ok (.ireturn, 1) := by decide +kernel
theorem d_Rank_listDocuments_0 : decode b_Rank_listDocuments 0 = .ok (.aload_n 0, 1) := by decide +kernel
theorem d_Rank_listDocuments_1 : decode b_Rank_listDocuments 1 = .ok (.getfield 24, 3) := by decide +kernel
theorem d_Rank_listDocuments_4 : decode b_Rank_listDocuments 4 = .ok (.iconst 0, 1) := by decide +kernel
theorem d_Rank_listDocuments_5 : decode b_Rank_listDocuments 5 = .ok (.invokevirtual 100, 3) := by decide +kernel
theorem d_Rank_listDocuments_8 : decode b_Rank_listDocuments 8 = .ok (.iconst 0, 1) := by decide +kernel
theorem d_Rank_listDocuments_9 : decode b_Rank_listDocuments 9 = .ok (.istore_n 1, 1) := by decide +kernel
theorem d_Rank_listDocuments_10 : decode b_Rank_listDocuments 10 = .ok (.iload_n 1, 1) := by decide +kernel
theorem d_Rank_listDocuments_11 : decode b_Rank_listDocuments 11 = .ok (.aload_n 0, 1) := by decide +kernel
theorem d_Rank_listDocuments_12 : decode b_Rank_listDocuments 12 = .ok (.getfield 15, 3) := by decide +kernel
theorem d_Rank_listDocuments_15 : decode b_Rank_listDocuments 15 = .ok (.getfield 47, 3) := by decide +kernel
theorem d_Rank_listDocuments_18 : decode b_Rank_listDocuments 18 = .ok (.getfield 67, 3) := by decide +kernel
theorem d_Rank_listDocuments_21 : decode b_Rank_listDocuments 21 = .ok (.if_icmp .ge 38, 3) := by decide +kernel
theorem d_Rank_listDocuments_24 : decode b_Rank_listDocuments 24 = .ok (.aload_n 0, 1) := by decide +kernel
theorem d_Rank_listDocuments_25 : decode b_Rank_listDocuments 25 = .ok (.getfield 15, 3) := by decide +kernel
theorem d_Rank_listDocuments_28 : decode b_Rank_listDocuments 28 = .ok (.getfield 47, 3) := by decide +kernel
theorem d_Rank_listDocuments_31 : decode b_Rank_listDocuments 31 = .ok (.iload_n 1, 1) := by decide +kernel
theorem d_Rank_listDocuments_32 : decode b_Rank_listDocuments 32 = .ok (.invokevirtual 71, 3) := by decide +kernel
theorem d_Rank_listDocuments_35 : decode b_Rank_listDocuments 35 = .ok (.istore_n 2, 1) := by decide +kernel
theorem d_Rank_listDocuments_36 : decode b_Rank_listDocuments 36 = .ok (.aload_n 0, 1) := by decide +kernel
theorem d_Rank_listDocuments_37 : decode b_Rank_listDocuments 37 = .ok (.iload_n 2, 1) := by decide +kernel
theorem d_Rank_listDocuments_38 : decode b_Rank_listDocuments 38 = .ok (.invokevirtual 103, 3) := by decide +kernel
theorem d_Rank_listDocuments_41 : decode b_Rank_listDocuments 41 = .ok (.ifCond .eq 12, 3) := by decide +kernel
theorem d_Rank_listDocuments_44 : decode b_Rank_listDocuments 44 = .ok (.aload_n 0, 1) := by decide +kernel
theorem d_Rank_listDocuments_45 : decode b_Rank_listDocuments 45 = .ok (.getfield 24, 3) := by decide +kernel
theorem d_Rank_listDocuments_48 : decode b_Rank_listDocuments 48 = .ok (.iload_n 2, 1) := by decide +kernel
theorem d_Rank_listDocuments_49 : decode b_Rank_listDocuments 49 = .ok (.invokevirtual 106, 3) := by decide +kernel
theorem d_Rank_listDocuments_52 : decode b_Rank_listDocuments 52 = .ok (.pop, 1) := by decide +kernel
theorem d_Rank_listDocuments_53 : decode b_Rank_listDocuments 53 = .ok (.iinc 1 1, 3) := by decide +kernel
theorem d_Rank_listDocuments_56 : decode b_Rank_listDocuments 56 = .ok (.goto (-46), 3) := by decide +kernel
theorem d_Rank_listDocuments_59 : decode b_Rank_listDocuments 59 = .ok (.return_, 1) := by decide +kernel
theorem d_Rank_followLinks_0 : decode b_Rank_followLinks 0 = .ok (.aload_n 0, 1) := by decide +kernel
theorem d_Rank_followLinks_1 : decode b_Rank_followLinks 1 = .ok (.getfield 9, 3) := by decide +kernel
theorem d_Rank_followLinks_4 : decode b_Rank_followLinks 4 = .ok (.getfield 56, 3) := by decide +kernel
theorem d_Rank_followLinks_7 : decode b_Rank_followLinks 7 = .ok (.iload_n 1, 1) := by decide +kernel
theorem d_Rank_followLinks_8 : decode b_Rank_followLinks 8 = .ok (.aaload, 1) := by decide +kernel
theorem d_Rank_followLinks_9 : decode b_Rank_followLinks 9 = .ok (.getfield 109, 3) := by decide +kernel
theorem d_Rank_followLinks_12 : decode b_Rank_followLinks 12 = .ok (.astore_n 2, 1) := by decide +kernel
theorem d_Rank_followLinks_13 : decode b_Rank_followLinks 13 = .ok (.aload_n 0, 1) := by decide +kernel
theorem d_Rank_followLinks_14 : decode b_Rank_followLinks 14 = .ok (.getfield 33, 3) := by decide +kernel
theorem d_Rank_followLinks_17 : decode b_Rank_followLinks 17 = .ok (.iload_n 1, 1) := by decide +kernel
theorem d_Rank_followLinks_18 : decode b_Rank_followLinks 18 = .ok (.iconst 0, 1) := by decide +kernel
theorem d_Rank_followLinks_19 : decode b_Rank_followLinks 19 = .ok (.iastore, 1) := by decide +kernel
theorem d_Rank_followLinks_20 : decode b_Rank_followLinks 20 = .ok (.iconst 0, 1) := by decide +kernel
theorem d_Rank_followLinks_21 : decode b_Rank_followLinks 21 = .ok (.istore_n 3, 1) := by decide +kernel
theorem d_Rank_followLinks_22 : decode b_Rank_followLinks 22 = .ok (.iload_n 3, 1) := by decide +kernel
theorem d_Rank_followLinks_23 : decode b_Rank_followLinks 23 = .ok (.aload_n 2, 1) := by decide +kernel
theorem d_Rank_followLinks_24 : decode b_Rank_followLinks 24 = .ok (.getfield 67, 3) := by decide +kernel
theorem d_Rank_followLinks_27 : decode b_Rank_followLinks 27 = .ok (.if_icmp .ge 60, 3) := by decide +kernel
theorem d_Rank_followLinks_30 : decode b_Rank_followLinks 30 = .ok (.aload_n 0, 1) := by decide +kernel
theorem d_Rank_followLinks_31 : decode b_Rank_followLinks 31 = .ok (.getfield 15, 3) := by decide +kernel
theorem d_Rank_followLinks_34 : decode b_Rank_followLinks 34 = .ok (.aload_n 2, 1) := by decide +kernel
theorem d_Rank_followLinks_35 : decode b_Rank_followLinks 35 = .ok (.iload_n 3, 1) := by decide +kernel
theorem d_Rank_followLinks_36 : decode b_Rank_followLinks 36 = .ok (.invokevirtual 71, 3) := by decide +kernel
theorem d_Rank_followLinks_39 : decode b_Rank_followLinks 39 = .ok (.iconst 0, 1) := by decide +kernel
theorem d_Rank_followLinks_40 : decode b_Rank_followLinks 40 = .ok (.invokevirtual 112, 3) := by decide +kernel
theorem d_Rank_followLinks_43 : decode b_Rank_followLinks 43 = .ok (.istore 4, 2) := by decide +kernel
theorem d_Rank_followLinks_45 : decode b_Rank_followLinks 45 = .ok (.aload_n 0, 1) := by decide +kernel
theorem d_Rank_followLinks_46 : decode b_Rank_followLinks 46 = .ok (.getfield 30, 3) := by decide +kernel
theorem d_Rank_followLinks_49 : decode b_Rank_followLinks 49 = .ok (.iload_n 1, 1) := by decide +kernel
theorem d_Rank_followLinks_50 : decode b_Rank_followLinks 50 = .ok (.aaload, 1) := by decide +kernel
theorem d_Rank_followLinks_51 : decode b_Rank_followLinks 51 = .ok (.iload_n 3, 1) := by decide +kernel
theorem d_Rank_followLinks_52 : decode b_Rank_followLinks 52 = .ok (.aload_n 0, 1) := by decide +kernel
theorem d_Rank_followLinks_53 : decode b_Rank_followLinks 53 = .ok (.iload 4, 2) := by decide +kernel
theorem d_Rank_followLinks_55 : decode b_Rank_followLinks 55 = .ok (.invokevirtual 79, 3) := by decide +kernel
theorem d_Rank_followLinks_58 : decode b_Rank_followLinks 58 = .ok (.iastore, 1) := by decide +kernel
theorem d_Rank_followLinks_59 : decode b_Rank_followLinks 59 = .ok (.aload_n 0, 1) := by decide +kernel
theorem d_Rank_followLinks_60 : decode b_Rank_followLinks 60 = .ok (.getfield 30, 3) := by decide +kernel
theorem d_Rank_followLinks_63 : decode b_Rank_followLinks 63 = .ok (.iload_n 1, 1) := by decide +kernel
theorem d_Rank_followLinks_64 : decode b_Rank_followLinks 64 = .ok (.aaload, 1) := by decide +kernel
theorem d_Rank_followLinks_65 : decode b_Rank_followLinks 65 = .ok (.iload_n 3, 1) := by decide +kernel
theorem d_Rank_followLinks_66 : decode b_Rank_followLinks 66 = .ok (.iaload, 1) := by decide +kernel
theorem d_Rank_followLinks_67 : decode b_Rank_followLinks 67 = .ok (.iconst (-1), 1) := by decide +kernel
theorem d_Rank_followLinks_68 : decode b_Rank_followLinks 68 = .ok (.if_icmp .eq 13, 3) := by decide +kernel
theorem d_Rank_followLinks_71 : decode b_Rank_followLinks 71 = .ok (.aload_n 0, 1) := by decide +kernel
theorem d_Rank_followLinks_72 : decode b_Rank_followLinks 72 = .ok (.getfield 33, 3) := by decide +kernel
theorem d_Rank_followLinks_75 : decode b_Rank_followLinks 75 = .ok (.iload_n 1, 1) := by decide +kernel
theorem d_Rank_followLinks_76 : decode b_Rank_followLinks 76 = .ok (.dup2, 1) := by decide +kernel
theorem d_Rank_followLinks_77 : decode b_Rank_followLinks 77 = .ok (.iaload, 1) := by decide +kernel
theorem d_Rank_followLinks_78 : decode b_Rank_followLinks 78 = .ok (.iconst 1, 1) := by decide +kernel
theorem d_Rank_followLinks_79 : decode b_Rank_followLinks 79 = .ok (.iadd, 1) := by decide +kernel
theorem d_Rank_followLinks_80 : decode b_Rank_followLinks 80 = .ok (.iastore, 1) := by decide +kernel
theorem d_Rank_followLinks_81 : decode b_Rank_followLinks 81 = .ok (.iinc 3 1, 3) := by decide +kernel
theorem d_Rank_followLinks_84 : decode b_Rank_followLinks 84 = .ok (.goto (-62), 3) := by decide +kernel
theorem d_Rank_followLinks_87 : decode b_Rank_followLinks 87 = .ok (.return_, 1) := by decide +kernel
theorem d_Rank_playRound_0 : decode b_Rank_playRound 0 = .ok (.iconst 0, 1) := by decide +kernel
theorem d_Rank_playRound_1 : decode b_Rank_playRound 1 = .ok (.istore_n 1, 1) := by decide +kernel
theorem d_Rank_playRound_2 : decode b_Rank_playRound 2 = .ok (.iload_n 1, 1) := by decide +kernel
theorem d_Rank_playRound_3 : decode b_Rank_playRound 3 = .ok (.aload_n 0, 1) := by decide +kernel
theorem d_Rank_playRound_4 : decode b_Rank_playRound 4 = .ok (.getfield 24, 3) := by decide +kernel
theorem d_Rank_playRound_7 : decode b_Rank_playRound 7 = .ok (.getfield 67, 3) := by decide +kernel
theorem d_Rank_playRound_10 : decode b_Rank_playRound 10 = .ok (.if_icmp .ge 23, 3) := by decide +kernel
theorem d_Rank_playRound_13 : decode b_Rank_playRound 13 = .ok (.aload_n 0, 1) := by decide +kernel
theorem d_Rank_playRound_14 : decode b_Rank_playRound 14 = .ok (.getfield 41, 3) := by decide +kernel
theorem d_Rank_playRound_17 : decode b_Rank_playRound 17 = .ok (.aload_n 0, 1) := by decide +kernel
theorem d_Rank_playRound_18 : decode b_Rank_playRound 18 = .ok (.getfield 24, 3) := by decide +kernel
theorem d_Rank_playRound_21 : decode b_Rank_playRound 21 = .ok (.iload_n 1, 1) := by decide +kernel
theorem d_Rank_playRound_22 : decode b_Rank_playRound 22 = .ok (.invokevirtual 71, 3) := by decide +kernel
theorem d_Rank_playRound_25 : decode b_Rank_playRound 25 = .ok (.lconst 0, 1) := by decide +kernel
theorem d_Rank_playRound_26 : decode b_Rank_playRound 26 = .ok (.lastore, 1) := by decide +kernel
theorem d_Rank_playRound_27 : decode b_Rank_playRound 27 = .ok (.iinc 1 1, 3) := by decide +kernel
theorem d_Rank_playRound_30 : decode b_Rank_playRound 30 = .ok (.goto (-28), 3) := by decide +kernel
theorem d_Rank_playRound_33 : decode b_Rank_playRound 33 = .ok (.iconst 0, 1) := by decide +kernel
theorem d_Rank_playRound_34 : decode b_Rank_playRound 34 = .ok (.istore_n 1, 1) := by decide +kernel
theorem d_Rank_playRound_35 : decode b_Rank_playRound 35 = .ok (.iload_n 1, 1) := by decide +kernel
theorem d_Rank_playRound_36 : decode b_Rank_playRound 36 = .ok (.aload_n 0, 1) := by decide +kernel
theorem d_Rank_playRound_37 : decode b_Rank_playRound 37 = .ok (.getfield 24, 3) := by decide +kernel
theorem d_Rank_playRound_40 : decode b_Rank_playRound 40 = .ok (.getfield 67, 3) := by decide +kernel
theorem d_Rank_playRound_43 : decode b_Rank_playRound 43 = .ok (.if_icmp .ge 21, 3) := by decide +kernel
theorem d_Rank_playRound_46 : decode b_Rank_playRound 46 = .ok (.aload_n 0, 1) := by decide +kernel
theorem d_Rank_playRound_47 : decode b_Rank_playRound 47 = .ok (.aload_n 0, 1) := by decide +kernel
theorem d_Rank_playRound_48 : decode b_Rank_playRound 48 = .ok (.getfield 24, 3) := by decide +kernel
theorem d_Rank_playRound_51 : decode b_Rank_playRound 51 = .ok (.iload_n 1, 1) := by decide +kernel
theorem d_Rank_playRound_52 : decode b_Rank_playRound 52 = .ok (.invokevirtual 71, 3) := by decide +kernel
theorem d_Rank_playRound_55 : decode b_Rank_playRound 55 = .ok (.invokevirtual 116, 3) := by decide +kernel
theorem d_Rank_playRound_58 : decode b_Rank_playRound 58 = .ok (.iinc 1 1, 3) := by decide +kernel
theorem d_Rank_playRound_61 : decode b_Rank_playRound 61 = .ok (.goto (-26), 3) := by decide +kernel
theorem d_Rank_playRound_64 : decode b_Rank_playRound 64 = .ok (.iconst 0, 1) := by decide +kernel
theorem d_Rank_playRound_65 : decode b_Rank_playRound 65 = .ok (.istore_n 1, 1) := by decide +kernel
theorem d_Rank_playRound_66 : decode b_Rank_playRound 66 = .ok (.iload_n 1, 1) := by decide +kernel
theorem d_Rank_playRound_67 : decode b_Rank_playRound 67 = .ok (.aload_n 0, 1) := by decide +kernel
theorem d_Rank_playRound_68 : decode b_Rank_playRound 68 = .ok (.getfield 24, 3) := by decide +kernel
theorem d_Rank_playRound_71 : decode b_Rank_playRound 71 = .ok (.getfield 67, 3) := by decide +kernel
theorem d_Rank_playRound_74 : decode b_Rank_playRound 74 = .ok (.if_icmp .ge 42, 3) := by decide +kernel
theorem d_Rank_playRound_77 : decode b_Rank_playRound 77 = .ok (.aload_n 0, 1) := by decide +kernel
theorem d_Rank_playRound_78 : decode b_Rank_playRound 78 = .ok (.getfield 24, 3) := by decide +kernel
theorem d_Rank_playRound_81 : decode b_Rank_playRound 81 = .ok (.iload_n 1, 1) := by decide +kernel
theorem d_Rank_playRound_82 : decode b_Rank_playRound 82 = .ok (.invokevirtual 71, 3) := by decide +kernel
theorem d_Rank_playRound_85 : decode b_Rank_playRound 85 = .ok (.istore_n 2, 1) := by decide +kernel
theorem d_Rank_playRound_86 : decode b_Rank_playRound 86 = .ok (.aload_n 0, 1) := by decide +kernel
theorem d_Rank_playRound_87 : decode b_Rank_playRound 87 = .ok (.getfield 37, 3) := by decide +kernel
theorem d_Rank_playRound_90 : decode b_Rank_playRound 90 = .ok (.iload_n 2, 1) := by decide +kernel
theorem d_Rank_playRound_91 : decode b_Rank_playRound 91 = .ok (.ldc2_w 119, 3) := by decide +kernel
theorem d_Rank_playRound_94 : decode b_Rank_playRound 94 = .ok (.ldc2_w 121, 3) := by decide +kernel
theorem d_Rank_playRound_97 : decode b_Rank_playRound 97 = .ok (.aload_n 0, 1) := by decide +kernel
theorem d_Rank_playRound_98 : decode b_Rank_playRound 98 = .ok (.getfield 41, 3) := by decide +kernel
theorem d_Rank_playRound_101 : decode b_Rank_playRound 101 = .ok (.iload_n 2, 1) := by decide +kernel
theorem d_Rank_playRound_102 : decode b_Rank_playRound 102 = .ok (.laload, 1) := by decide +kernel
theorem d_Rank_playRound_103 : decode b_Rank_playRound 103 = .ok (.lmul, 1) := by decide +kernel
theorem d_Rank_playRound_104 : decode b_Rank_playRound 104 = .ok (.ldc2_w 123, 3) := by decide +kernel
theorem d_Rank_playRound_107 : decode b_Rank_playRound 107 = .ok (.ldiv, 1) := by decide +kernel
theorem d_Rank_playRound_108 : decode b_Rank_playRound 108 = .ok (.ladd, 1) := by decide +kernel
theorem d_Rank_playRound_109 : decode b_Rank_playRound 109 = .ok (.lastore, 1) := by decide +kernel
theorem d_Rank_playRound_110 : decode b_Rank_playRound 110 = .ok (.iinc 1 1, 3) := by decide +kernel
theorem d_Rank_playRound_113 : decode b_Rank_playRound 113 = .ok (.goto (-47), 3) := by decide +kernel
theorem d_Rank_playRound_116 : decode b_Rank_playRound 116 = .ok (.return_, 1) := by decide +kernel
theorem d_Rank_passOn_0 : decode b_Rank_passOn 0 = .ok (.aload_n 0, 1) := by decide +kernel
theorem d_Rank_passOn_1 : decode b_Rank_passOn 1 = .ok (.getfield 33, 3) := by decide +kernel
theorem d_Rank_passOn_4 : decode b_Rank_passOn 4 = .ok (.iload_n 1, 1) := by decide +kernel
theorem d_Rank_passOn_5 : decode b_Rank_passOn 5 = .ok (.iaload, 1) := by decide +kernel
theorem d_Rank_passOn_6 : decode b_Rank_passOn 6 = .ok (.ifCond .ne 4, 3) := by decide +kernel
theorem d_Rank_passOn_9 : decode b_Rank_passOn 9 = .ok (.return_, 1) := by decide +kernel
theorem d_Rank_passOn_10 : decode b_Rank_passOn 10 = .ok (.aload_n 0, 1) := by decide +kernel
theorem d_Rank_passOn_11 : decode b_Rank_passOn 11 = .ok (.getfield 37, 3) := by decide +kernel
theorem d_Rank_passOn_14 : decode b_Rank_passOn 14 = .ok (.iload_n 1, 1) := by decide +kernel
theorem d_Rank_passOn_15 : decode b_Rank_passOn 15 = .ok (.laload, 1) := by decide +kernel
theorem d_Rank_passOn_16 : decode b_Rank_passOn 16 = .ok (.aload_n 0, 1) := by decide +kernel
theorem d_Rank_passOn_17 : decode b_Rank_passOn 17 = .ok (.getfield 33, 3) := by decide +kernel
theorem d_Rank_passOn_20 : decode b_Rank_passOn 20 = .ok (.iload_n 1, 1) := by decide +kernel
theorem d_Rank_passOn_21 : decode b_Rank_passOn 21 = .ok (.iaload, 1) := by decide +kernel
theorem d_Rank_passOn_22 : decode b_Rank_passOn 22 = .ok (.i2l, 1) := by decide +kernel
theorem d_Rank_passOn_23 : decode b_Rank_passOn 23 = .ok (.ldiv, 1) := by decide +kernel
theorem d_Rank_passOn_24 : decode b_Rank_passOn 24 = .ok (.lstore_n 2, 1) := by decide +kernel
theorem d_Rank_passOn_25 : decode b_Rank_passOn 25 = .ok (.iconst 0, 1) := by decide +kernel
theorem d_Rank_passOn_26 : decode b_Rank_passOn 26 = .ok (.istore 4, 2) := by decide +kernel
theorem d_Rank_passOn_28 : decode b_Rank_passOn 28 = .ok (.iload 4, 2) := by decide +kernel
theorem d_Rank_passOn_30 : decode b_Rank_passOn 30 = .ok (.aload_n 0, 1) := by decide +kernel
theorem d_Rank_passOn_31 : decode b_Rank_passOn 31 = .ok (.getfield 9, 3) := by decide +kernel
theorem d_Rank_passOn_34 : decode b_Rank_passOn 34 = .ok (.getfield 56, 3) := by decide +kernel
theorem d_Rank_passOn_37 : decode b_Rank_passOn 37 = .ok (.iload_n 1, 1) := by decide +kernel
theorem d_Rank_passOn_38 : decode b_Rank_passOn 38 = .ok (.aaload, 1) := by decide +kernel
theorem d_Rank_passOn_39 : decode b_Rank_passOn 39 = .ok (.getfield 109, 3) := by decide +kernel
theorem d_Rank_passOn_42 : decode b_Rank_passOn 42 = .ok (.getfield 67, 3) := by decide +kernel
theorem d_Rank_passOn_45 : decode b_Rank_passOn 45 = .ok (.if_icmp .ge 37, 3) := by decide +kernel
theorem d_Rank_passOn_48 : decode b_Rank_passOn 48 = .ok (.aload_n 0, 1) := by decide +kernel
theorem d_Rank_passOn_49 : decode b_Rank_passOn 49 = .ok (.getfield 30, 3) := by decide +kernel
theorem d_Rank_passOn_52 : decode b_Rank_passOn 52 = .ok (.iload_n 1, 1) := by decide +kernel
theorem d_Rank_passOn_53 : decode b_Rank_passOn 53 = .ok (.aaload, 1) := by decide +kernel
theorem d_Rank_passOn_54 : decode b_Rank_passOn 54 = .ok (.iload 4, 2) := by decide +kernel
theorem d_Rank_passOn_56 : decode b_Rank_passOn 56 = .ok (.iaload, 1) := by decide +kernel
theorem d_Rank_passOn_57 : decode b_Rank_passOn 57 = .ok (.istore 5, 2) := by decide +kernel
theorem d_Rank_passOn_59 : decode b_Rank_passOn 59 = .ok (.iload 5, 2) := by decide +kernel
theorem d_Rank_passOn_61 : decode b_Rank_passOn 61 = .ok (.iconst (-1), 1) := by decide +kernel
theorem d_Rank_passOn_62 : decode b_Rank_passOn 62 = .ok (.if_icmp .eq 14, 3) := by decide +kernel
theorem d_Rank_passOn_65 : decode b_Rank_passOn 65 = .ok (.aload_n 0, 1) := by decide +kernel
theorem d_Rank_passOn_66 : decode b_Rank_passOn 66 = .ok (.getfield 41, 3) := by decide +kernel
theorem d_Rank_passOn_69 : decode b_Rank_passOn 69 = .ok (.iload 5, 2) := by decide +kernel
theorem d_Rank_passOn_71 : decode b_Rank_passOn 71 = .ok (.dup2, 1) := by decide +kernel
theorem d_Rank_passOn_72 : decode b_Rank_passOn 72 = .ok (.laload, 1) := by decide +kernel
theorem d_Rank_passOn_73 : decode b_Rank_passOn 73 = .ok (.lload_n 2, 1) := by decide +kernel
theorem d_Rank_passOn_74 : decode b_Rank_passOn 74 = .ok (.ladd, 1) := by decide +kernel
theorem d_Rank_passOn_75 : decode b_Rank_passOn 75 = .ok (.lastore, 1) := by decide +kernel
theorem d_Rank_passOn_76 : decode b_Rank_passOn 76 = .ok (.iinc 4 1, 3) := by decide +kernel
theorem d_Rank_passOn_79 : decode b_Rank_passOn 79 = .ok (.goto (-51), 3) := by decide +kernel
theorem d_Rank_passOn_82 : decode b_Rank_passOn 82 = .ok (.return_, 1) := by decide +kernel
theorem d_Rank_placeOf_0 : decode b_Rank_placeOf 0 = .ok (.iconst 0, 1) := by decide +kernel
theorem d_Rank_placeOf_1 : decode b_Rank_placeOf 1 = .ok (.istore_n 2, 1) := by decide +kernel
theorem d_Rank_placeOf_2 : decode b_Rank_placeOf 2 = .ok (.iconst 0, 1) := by decide +kernel
theorem d_Rank_placeOf_3 : decode b_Rank_placeOf 3 = .ok (.istore_n 3, 1) := by decide +kernel
theorem d_Rank_placeOf_4 : decode b_Rank_placeOf 4 = .ok (.iload_n 3, 1) := by decide +kernel
theorem d_Rank_placeOf_5 : decode b_Rank_placeOf 5 = .ok (.aload_n 0, 1) := by decide +kernel
theorem d_Rank_placeOf_6 : decode b_Rank_placeOf 6 = .ok (.getfield 24, 3) := by decide +kernel
theorem d_Rank_placeOf_9 : decode b_Rank_placeOf 9 = .ok (.getfield 67, 3) := by decide +kernel
theorem d_Rank_placeOf_12 : decode b_Rank_placeOf 12 = .ok (.if_icmp .ge 28, 3) := by decide +kernel
theorem d_Rank_placeOf_15 : decode b_Rank_placeOf 15 = .ok (.aload_n 0, 1) := by decide +kernel
theorem d_Rank_placeOf_16 : decode b_Rank_placeOf 16 = .ok (.aload_n 0, 1) := by decide +kernel
theorem d_Rank_placeOf_17 : decode b_Rank_placeOf 17 = .ok (.getfield 24, 3) := by decide +kernel
theorem d_Rank_placeOf_20 : decode b_Rank_placeOf 20 = .ok (.iload_n 3, 1) := by decide +kernel
theorem d_Rank_placeOf_21 : decode b_Rank_placeOf 21 = .ok (.invokevirtual 71, 3) := by decide +kernel
theorem d_Rank_placeOf_24 : decode b_Rank_placeOf 24 = .ok (.iload_n 1, 1) := by decide +kernel
theorem d_Rank_placeOf_25 : decode b_Rank_placeOf 25 = .ok (.invokevirtual 125, 3) := by decide +kernel
theorem d_Rank_placeOf_28 : decode b_Rank_placeOf 28 = .ok (.ifCond .eq 6, 3) := by decide +kernel
theorem d_Rank_placeOf_31 : decode b_Rank_placeOf 31 = .ok (.iinc 2 1, 3) := by decide +kernel
theorem d_Rank_placeOf_34 : decode b_Rank_placeOf 34 = .ok (.iinc 3 1, 3) := by decide +kernel
theorem d_Rank_placeOf_37 : decode b_Rank_placeOf 37 = .ok (.goto (-33), 3) := by decide +kernel
theorem d_Rank_placeOf_40 : decode b_Rank_placeOf 40 = .ok (.iload_n 2, 1) := by decide +kernel
theorem d_Rank_placeOf_41 : decode b_Rank_placeOf 41 = .ok (.ireturn, 1) := by decide +kernel
theorem d_Rank_standsBefore_0 : decode b_Rank_standsBefore 0 = .ok (.aload_n 0, 1) := by decide +kernel
theorem d_Rank_standsBefore_1 : decode b_Rank_standsBefore 1 = .ok (.getfield 44, 3) := by decide +kernel
theorem d_Rank_standsBefore_4 : decode b_Rank_standsBefore 4 = .ok (.iload_n 1, 1) := by decide +kernel
theorem d_Rank_standsBefore_5 : decode b_Rank_standsBefore 5 = .ok (.laload, 1) := by decide +kernel
theorem d_Rank_standsBefore_6 : decode b_Rank_standsBefore 6 = .ok (.aload_n 0, 1) := by decide +kernel
theorem d_Rank_standsBefore_7 : decode b_Rank_standsBefore 7 = .ok (.getfield 44, 3) := by decide +kernel
theorem d_Rank_standsBefore_10 : decode b_Rank_standsBefore 10 = .ok (.iload_n 2, 1) := by decide +kernel
theorem d_Rank_standsBefore_11 : decode b_Rank_standsBefore 11 = .ok (.laload, 1) := by decide +kernel
theorem d_Rank_standsBefore_12 : decode b_Rank_standsBefore 12 = .ok (.lcmp, 1) := by decide +kernel
theorem d_Rank_standsBefore_13 : decode b_Rank_standsBefore 13 = .ok (.ifCond .eq 25, 3) := by decide +kernel
theorem d_Rank_standsBefore_16 : decode b_Rank_standsBefore 16 = .ok (.aload_n 0, 1) := by decide +kernel
theorem d_Rank_standsBefore_17 : decode b_Rank_standsBefore 17 = .ok (.getfield 44, 3) := by decide +kernel
theorem d_Rank_standsBefore_20 : decode b_Rank_standsBefore 20 = .ok (.iload_n 1, 1) := by decide +kernel
theorem d_Rank_standsBefore_21 : decode b_Rank_standsBefore 21 = .ok (.laload, 1) := by decide +kernel
theorem d_Rank_standsBefore_22 : decode b_Rank_standsBefore 22 = .ok (.aload_n 0, 1) := by decide +kernel
theorem d_Rank_standsBefore_23 : decode b_Rank_standsBefore 23 = .ok (.getfield 44, 3) := by decide +kernel
theorem d_Rank_standsBefore_26 : decode b_Rank_standsBefore 26 = .ok (.iload_n 2, 1) := by decide +kernel
theorem d_Rank_standsBefore_27 : decode b_Rank_standsBefore 27 = .ok (.laload, 1) := by decide +kernel
theorem d_Rank_standsBefore_28 : decode b_Rank_standsBefore 28 = .ok (.lcmp, 1) := by decide +kernel
theorem d_Rank_standsBefore_29 : decode b_Rank_standsBefore 29 = .ok (.ifCond .le 7, 3) := by decide +kernel
theorem d_Rank_standsBefore_32 : decode b_Rank_standsBefore 32 = .ok (.iconst 1, 1) := by decide +kernel
theorem d_Rank_standsBefore_33 : decode b_Rank_standsBefore 33 = .ok (.goto 4, 3) := by decide +kernel
theorem d_Rank_standsBefore_36 : decode b_Rank_standsBefore 36 = .ok (.iconst 0, 1) := by decide +kernel
theorem d_Rank_standsBefore_37 : decode b_Rank_standsBefore 37 = .ok (.ireturn, 1) := by decide +kernel
theorem d_Rank_standsBefore_38 : decode b_Rank_standsBefore 38 = .ok (.aload_n 0, 1) := by decide +kernel
theorem d_Rank_standsBefore_39 : decode b_Rank_standsBefore 39 = .ok (.getfield 9, 3) := by decide +kernel
theorem d_Rank_standsBefore_42 : decode b_Rank_standsBefore 42 = .ok (.getfield 56, 3) := by decide +kernel
theorem d_Rank_standsBefore_45 : decode b_Rank_standsBefore 45 = .ok (.iload_n 1, 1) := by decide +kernel
theorem d_Rank_standsBefore_46 : decode b_Rank_standsBefore 46 = .ok (.aaload, 1) := by decide +kernel
theorem d_Rank_standsBefore_47 : decode b_Rank_standsBefore 47 = .ok (.aload_n 0, 1) := by decide +kernel
theorem d_Rank_standsBefore_48 : decode b_Rank_standsBefore 48 = .ok (.getfield 9, 3) := by decide +kernel
theorem d_Rank_standsBefore_51 : decode b_Rank_standsBefore 51 = .ok (.getfield 56, 3) := by decide +kernel
theorem d_Rank_standsBefore_54 : decode b_Rank_standsBefore 54 = .ok (.iload_n 2, 1) := by decide +kernel
theorem d_Rank_standsBefore_55 : decode b_Rank_standsBefore 55 = .ok (.aaload, 1) := by decide +kernel
theorem d_Rank_standsBefore_56 : decode b_Rank_standsBefore 56 = .ok (.invokevirtual 129, 3) := by decide +kernel
theorem d_Rank_standsBefore_59 : decode b_Rank_standsBefore 59 = .ok (.ireturn, 1) := by decide +kernel
end
section
/-! Decoded instructions of PG. -/
theorem d_PG_init_0 : decode b_PG_init 0 = .ok (.aload_n 0, 1) := by decide +kernel
theorem d_PG_init_1 : decode b_PG_init 1 = .ok (.invokespecial 1, 3) := by decide +kernel
theorem d_PG_init_4 : decode b_PG_init 4 = .ok (.aload_n 0, 1) := by decide +kernel
theorem d_PG_init_5 : decode b_PG_init 5 = .ok (.new 7, 3) := by decide +kernel
theorem d_PG_init_8 : decode b_PG_init 8 = .ok (.dup, 1) := by decide +kernel
theorem d_PG_init_9 : decode b_PG_init 9 = .ok (.invokespecial 9, 3) := by decide +kernel
theorem d_PG_init_12 : decode b_PG_init 12 = .ok (.putfield 10, 3) := by decide +kernel
theorem d_PG_init_15 : decode b_PG_init 15 = .ok (.aload_n 0, 1) := by decide +kernel
theorem d_PG_init_16 : decode b_PG_init 16 = .ok (.new 16, 3) := by decide +kernel
theorem d_PG_init_19 : decode b_PG_init 19 = .ok (.dup, 1) := by decide +kernel
theorem d_PG_init_20 : decode b_PG_init 20 = .ok (.aload_n 0, 1) := by decide +kernel
theorem d_PG_init_21 : decode b_PG_init 21 = .ok (.getfield 10, 3) := by decide +kernel
theorem d_PG_init_24 : decode b_PG_init 24 = .ok (.invokespecial 18, 3) := by decide +kernel
theorem d_PG_init_27 : decode b_PG_init 27 = .ok (.putfield 21, 3) := by decide +kernel
theorem d_PG_init_30 : decode b_PG_init 30 = .ok (.aload_n 0, 1) := by decide +kernel
theorem d_PG_init_31 : decode b_PG_init 31 = .ok (.new 25, 3) := by decide +kernel
theorem d_PG_init_34 : decode b_PG_init 34 = .ok (.dup, 1) := by decide +kernel
theorem d_PG_init_35 : decode b_PG_init 35 = .ok (.aload_n 0, 1) := by decide +kernel
theorem d_PG_init_36 : decode b_PG_init 36 = .ok (.getfield 10, 3) := by decide +kernel
theorem d_PG_init_39 : decode b_PG_init 39 = .ok (.aload_n 0, 1) := by decide +kernel
theorem d_PG_init_40 : decode b_PG_init 40 = .ok (.getfield 21, 3) := by decide +kernel
theorem d_PG_init_43 : decode b_PG_init 43 = .ok (.invokespecial 27, 3) := by decide +kernel
theorem d_PG_init_46 : decode b_PG_init 46 = .ok (.putfield 30, 3) := by decide +kernel
theorem d_PG_init_49 : decode b_PG_init 49 = .ok (.aload_n 0, 1) := by decide +kernel
theorem d_PG_init_50 : decode b_PG_init 50 = .ok (.iconst 0, 1) := by decide +kernel
theorem d_PG_init_51 : decode b_PG_init 51 = .ok (.putfield 34, 3) := by decide +kernel
theorem d_PG_init_54 : decode b_PG_init 54 = .ok (.return_, 1) := by decide +kernel
theorem d_PG_page_0 : decode b_PG_page 0 = .ok (.aload_n 0, 1) := by decide +kernel
theorem d_PG_page_1 : decode b_PG_page 1 = .ok (.getfield 34, 3) := by decide +kernel
theorem d_PG_page_4 : decode b_PG_page 4 = .ok (.ifCond .eq 5, 3) := by decide +kernel
theorem d_PG_page_7 : decode b_PG_page 7 = .ok (.iconst (-1), 1) := by decide +kernel
theorem d_PG_page_8 : decode b_PG_page 8 = .ok (.ireturn, 1) := by decide +kernel
theorem d_PG_page_9 : decode b_PG_page 9 = .ok (.aload_n 0, 1) := by decide +kernel
theorem d_PG_page_10 : decode b_PG_page 10 = .ok (.getfield 10, 3) := by decide +kernel
theorem d_PG_page_13 : decode b_PG_page 13 = .ok (.iload_n 1, 1) := by decide +kernel
theorem d_PG_page_14 : decode b_PG_page 14 = .ok (.iload_n 2, 1) := by decide +kernel
theorem d_PG_page_15 : decode b_PG_page 15 = .ok (.invokevirtual 38, 3) := by decide +kernel
theorem d_PG_page_18 : decode b_PG_page 18 = .ok (.ireturn, 1) := by decide +kernel
theorem d_PG_write_0 : decode b_PG_write 0 = .ok (.aload_n 0, 1) := by decide +kernel
theorem d_PG_write_1 : decode b_PG_write 1 = .ok (.iload_n 1, 1) := by decide +kernel
theorem d_PG_write_2 : decode b_PG_write 2 = .ok (.invokevirtual 42, 3) := by decide +kernel
theorem d_PG_write_5 : decode b_PG_write 5 = .ok (.ifCond .eq 36, 3) := by decide +kernel
theorem d_PG_write_8 : decode b_PG_write 8 = .ok (.iload_n 2, 1) := by decide +kernel
theorem d_PG_write_9 : decode b_PG_write 9 = .ok (.iconst 0, 1) := by decide +kernel
theorem d_PG_write_10 : decode b_PG_write 10 = .ok (.bipush 25, 2) := by decide +kernel
theorem d_PG_write_12 : decode b_PG_write 12 = .ok (.invokestatic 46, 3) := by decide +kernel
theorem d_PG_write_15 : decode b_PG_write 15 = .ok (.ifCond .eq 26, 3) := by decide +kernel
theorem d_PG_write_18 : decode b_PG_write 18 = .ok (.aload_n 0, 1) := by decide +kernel
theorem d_PG_write_19 : decode b_PG_write 19 = .ok (.getfield 10, 3) := by decide +kernel
theorem d_PG_write_22 : decode b_PG_write 22 = .ok (.getfield 50, 3) := by decide +kernel
theorem d_PG_write_25 : decode b_PG_write 25 = .ok (.iload_n 1, 1) := by decide +kernel
theorem d_PG_write_26 : decode b_PG_write 26 = .ok (.aaload, 1) := by decide +kernel
theorem d_PG_write_27 : decode b_PG_write 27 = .ok (.getfield 54, 3) := by decide +kernel
theorem d_PG_write_30 : decode b_PG_write 30 = .ok (.iload_n 2, 1) := by decide +kernel
theorem d_PG_write_31 : decode b_PG_write 31 = .ok (.invokevirtual 60, 3) := by decide +kernel
theorem d_PG_write_34 : decode b_PG_write 34 = .ok (.ifCond .eq 7, 3) := by decide +kernel
theorem d_PG_write_37 : decode b_PG_write 37 = .ok (.iconst 1, 1) := by decide +kernel
theorem d_PG_write_38 : decode b_PG_write 38 = .ok (.goto 4, 3) := by decide +kernel
theorem d_PG_write_41 : decode b_PG_write 41 = .ok (.iconst 0, 1) := by decide +kernel
theorem d_PG_write_42 : decode b_PG_write 42 = .ok (.ireturn, 1) := by decide +kernel
theorem d_PG_link_0 : decode b_PG_link 0 = .ok (.aload_n 0, 1) := by decide +kernel
theorem d_PG_link_1 : decode b_PG_link 1 = .ok (.iload_n 1, 1) := by decide +kernel
theorem d_PG_link_2 : decode b_PG_link 2 = .ok (.invokevirtual 42, 3) := by decide +kernel
theorem d_PG_link_5 : decode b_PG_link 5 = .ok (.ifCond .eq 37, 3) := by decide +kernel
theorem d_PG_link_8 : decode b_PG_link 8 = .ok (.aload_n 0, 1) := by decide +kernel
theorem d_PG_link_9 : decode b_PG_link 9 = .ok (.getfield 10, 3) := by decide +kernel
theorem d_PG_link_12 : decode b_PG_link 12 = .ok (.iload_n 2, 1) := by decide +kernel
theorem d_PG_link_13 : decode b_PG_link 13 = .ok (.invokevirtual 65, 3) := by decide +kernel
theorem d_PG_link_16 : decode b_PG_link 16 = .ok (.ifCond .eq 26, 3) := by decide +kernel
theorem d_PG_link_19 : decode b_PG_link 19 = .ok (.aload_n 0, 1) := by decide +kernel
theorem d_PG_link_20 : decode b_PG_link 20 = .ok (.getfield 10, 3) := by decide +kernel
theorem d_PG_link_23 : decode b_PG_link 23 = .ok (.getfield 50, 3) := by decide +kernel
theorem d_PG_link_26 : decode b_PG_link 26 = .ok (.iload_n 1, 1) := by decide +kernel
theorem d_PG_link_27 : decode b_PG_link 27 = .ok (.aaload, 1) := by decide +kernel
theorem d_PG_link_28 : decode b_PG_link 28 = .ok (.getfield 68, 3) := by decide +kernel
theorem d_PG_link_31 : decode b_PG_link 31 = .ok (.iload_n 2, 1) := by decide +kernel
theorem d_PG_link_32 : decode b_PG_link 32 = .ok (.invokevirtual 60, 3) := by decide +kernel
theorem d_PG_link_35 : decode b_PG_link 35 = .ok (.ifCond .eq 7, 3) := by decide +kernel
theorem d_PG_link_38 : decode b_PG_link 38 = .ok (.iconst 1, 1) := by decide +kernel
theorem d_PG_link_39 : decode b_PG_link 39 = .ok (.goto 4, 3) := by decide +kernel
theorem d_PG_link_42 : decode b_PG_link 42 = .ok (.iconst 0, 1) := by decide +kernel
theorem d_PG_link_43 : decode b_PG_link 43 = .ok (.ireturn, 1) := by decide +kernel
theorem d_PG_move_0 : decode b_PG_move 0 = .ok (.aload_n 0, 1) := by decide +kernel
theorem d_PG_move_1 : decode b_PG_move 1 = .ok (.iload_n 1, 1) := by decide +kernel
theorem d_PG_move_2 : decode b_PG_move 2 = .ok (.invokevirtual 42, 3) := by decide +kernel
theorem d_PG_move_5 : decode b_PG_move 5 = .ok (.ifCond .eq 14, 3) := by decide +kernel
theorem d_PG_move_8 : decode b_PG_move 8 = .ok (.aload_n 0, 1) := by decide +kernel
theorem d_PG_move_9 : decode b_PG_move 9 = .ok (.getfield 10, 3) := by decide +kernel
theorem d_PG_move_12 : decode b_PG_move 12 = .ok (.iload_n 2, 1) := by decide +kernel
theorem d_PG_move_13 : decode b_PG_move 13 = .ok (.invokevirtual 65, 3) := by decide +kernel
theorem d_PG_move_16 : decode b_PG_move 16 = .ok (.ifCond .ne 5, 3) := by decide +kernel
theorem d_PG_move_19 : decode b_PG_move 19 = .ok (.iconst 0, 1) := by decide +kernel
theorem d_PG_move_20 : decode b_PG_move 20 = .ok (.ireturn, 1) := by decide +kernel
theorem d_PG_move_21 : decode b_PG_move 21 = .ok (.aload_n 0, 1) := by decide +kernel
theorem d_PG_move_22 : decode b_PG_move 22 = .ok (.getfield 10, 3) := by decide +kernel
theorem d_PG_move_25 : decode b_PG_move 25 = .ok (.getfield 50, 3) := by decide +kernel
theorem d_PG_move_28 : decode b_PG_move 28 = .ok (.iload_n 1, 1) := by decide +kernel
theorem d_PG_move_29 : decode b_PG_move 29 = .ok (.aaload, 1) := by decide +kernel
theorem d_PG_move_30 : decode b_PG_move 30 = .ok (.getstatic 71, 3) := by decide +kernel
theorem d_PG_move_33 : decode b_PG_move 33 = .ok (.putfield 77, 3) := by decide +kernel
theorem d_PG_move_36 : decode b_PG_move 36 = .ok (.aload_n 0, 1) := by decide +kernel
theorem d_PG_move_37 : decode b_PG_move 37 = .ok (.getfield 10, 3) := by decide +kernel
theorem d_PG_move_40 : decode b_PG_move 40 = .ok (.getfield 50, 3) := by decide +kernel
theorem d_PG_move_43 : decode b_PG_move 43 = .ok (.iload_n 1, 1) := by decide +kernel
theorem d_PG_move_44 : decode b_PG_move 44 = .ok (.aaload, 1) := by decide +kernel
theorem d_PG_move_45 : decode b_PG_move 45 = .ok (.iload_n 2, 1) := by decide +kernel
theorem d_PG_move_46 : decode b_PG_move 46 = .ok (.putfield 80, 3) := by decide +kernel
theorem d_PG_move_49 : decode b_PG_move 49 = .ok (.iconst 1, 1) := by decide +kernel
theorem d_PG_move_50 : decode b_PG_move 50 = .ok (.ireturn, 1) := by decide +kernel
theorem d_PG_drop_0 : decode b_PG_drop 0 = .ok (.aload_n 0, 1) := by decide +kernel
theorem d_PG_drop_1 : decode b_PG_drop 1 = .ok (.iload_n 1, 1) := by decide +kernel
theorem d_PG_drop_2 : decode b_PG_drop 2 = .ok (.invokevirtual 42, 3) := by decide +kernel
theorem d_PG_drop_5 : decode b_PG_drop 5 = .ok (.ifCond .ne 5, 3) := by decide +kernel
theorem d_PG_drop_8 : decode b_PG_drop 8 = .ok (.iconst 0, 1) := by decide +kernel
theorem d_PG_drop_9 : decode b_PG_drop 9 = .ok (.ireturn, 1) := by decide +kernel
theorem d_PG_drop_10 : decode b_PG_drop 10 = .ok (.aload_n 0, 1) := by decide +kernel
theorem d_PG_drop_11 : decode b_PG_drop 11 = .ok (.getfield 10, 3) := by decide +kernel
theorem d_PG_drop_14 : decode b_PG_drop 14 = .ok (.getfield 50, 3) := by decide +kernel
theorem d_PG_drop_17 : decode b_PG_drop 17 = .ok (.iload_n 1, 1) := by decide +kernel
theorem d_PG_drop_18 : decode b_PG_drop 18 = .ok (.aaload, 1) := by decide +kernel
theorem d_PG_drop_19 : decode b_PG_drop 19 = .ok (.getstatic 84, 3) := by decide +kernel
theorem d_PG_drop_22 : decode b_PG_drop 22 = .ok (.putfield 77, 3) := by decide +kernel
theorem d_PG_drop_25 : decode b_PG_drop 25 = .ok (.iconst 1, 1) := by decide +kernel
theorem d_PG_drop_26 : decode b_PG_drop 26 = .ok (.ireturn, 1) := by decide +kernel
theorem d_PG_rule_0 : decode b_PG_rule 0 = .ok (.aload_n 0, 1) := by decide +kernel
theorem d_PG_rule_1 : decode b_PG_rule 1 = .ok (.getfield 34, 3) := by decide +kernel
theorem d_PG_rule_4 : decode b_PG_rule 4 = .ok (.ifCond .ne 41, 3) := by decide +kernel
theorem d_PG_rule_7 : decode b_PG_rule 7 = .ok (.iload_n 1, 1) := by decide +kernel
theorem d_PG_rule_8 : decode b_PG_rule 8 = .ok (.invokestatic 87, 3) := by decide +kernel
theorem d_PG_rule_11 : decode b_PG_rule 11 = .ok (.ifCond .eq 34, 3) := by decide +kernel
theorem d_PG_rule_14 : decode b_PG_rule 14 = .ok (.iload_n 2, 1) := by decide +kernel
theorem d_PG_rule_15 : decode b_PG_rule 15 = .ok (.iconst 0, 1) := by decide +kernel
theorem d_PG_rule_16 : decode b_PG_rule 16 = .ok (.ldc 90, 2) := by decide +kernel
theorem d_PG_rule_18 : decode b_PG_rule 18 = .ok (.invokestatic 46, 3) := by decide +kernel
theorem d_PG_rule_21 : decode b_PG_rule 21 = .ok (.ifCond .eq 24, 3) := by decide +kernel
theorem d_PG_rule_24 : decode b_PG_rule 24 = .ok (.aload_n 0, 1) := by decide +kernel
theorem d_PG_rule_25 : decode b_PG_rule 25 = .ok (.getfield 10, 3) := by decide +kernel
theorem d_PG_rule_28 : decode b_PG_rule 28 = .ok (.getfield 91, 3) := by decide +kernel
theorem d_PG_rule_31 : decode b_PG_rule 31 = .ok (.iload_n 1, 1) := by decide +kernel
theorem d_PG_rule_32 : decode b_PG_rule 32 = .ok (.aaload, 1) := by decide +kernel
theorem d_PG_rule_33 : decode b_PG_rule 33 = .ok (.iload_n 2, 1) := by decide +kernel
theorem d_PG_rule_34 : decode b_PG_rule 34 = .ok (.iload_n 3, 1) := by decide +kernel
theorem d_PG_rule_35 : decode b_PG_rule 35 = .ok (.invokevirtual 95, 3) := by decide +kernel
theorem d_PG_rule_38 : decode b_PG_rule 38 = .ok (.ifCond .eq 7, 3) := by decide +kernel
theorem d_PG_rule_41 : decode b_PG_rule 41 = .ok (.iconst 1, 1) := by decide +kernel
theorem d_PG_rule_42 : decode b_PG_rule 42 = .ok (.goto 4, 3) := by decide +kernel
theorem d_PG_rule_45 : decode b_PG_rule 45 = .ok (.iconst 0, 1) := by decide +kernel
theorem d_PG_rule_46 : decode b_PG_rule 46 = .ok (.ireturn, 1) := by decide +kernel
theorem d_PG_first_0 : decode b_PG_first 0 = .ok (.aload_n 0, 1) := by decide +kernel
theorem d_PG_first_1 : decode b_PG_first 1 = .ok (.iload_n 1, 1) := by decide +kernel
theorem d_PG_first_2 : decode b_PG_first 2 = .ok (.invokevirtual 42, 3) := by decide +kernel
theorem d_PG_first_5 : decode b_PG_first 5 = .ok (.ifCond .eq 21, 3) := by decide +kernel
theorem d_PG_first_8 : decode b_PG_first 8 = .ok (.aload_n 0, 1) := by decide +kernel
theorem d_PG_first_9 : decode b_PG_first 9 = .ok (.getfield 10, 3) := by decide +kernel
theorem d_PG_first_12 : decode b_PG_first 12 = .ok (.getfield 101, 3) := by decide +kernel
theorem d_PG_first_15 : decode b_PG_first 15 = .ok (.iload_n 1, 1) := by decide +kernel
theorem d_PG_first_16 : decode b_PG_first 16 = .ok (.invokevirtual 60, 3) := by decide +kernel
theorem d_PG_first_19 : decode b_PG_first 19 = .ok (.ifCond .eq 7, 3) := by decide +kernel
theorem d_PG_first_22 : decode b_PG_first 22 = .ok (.iconst 1, 1) := by decide +kernel
theorem d_PG_first_23 : decode b_PG_first 23 = .ok (.goto 4, 3) := by decide +kernel
theorem d_PG_first_26 : decode b_PG_first 26 = .ok (.iconst 0, 1) := by decide +kernel
theorem d_PG_first_27 : decode b_PG_first 27 = .ok (.ireturn, 1) := by decide +kernel
theorem d_PG_begin_0 : decode b_PG_begin 0 = .ok (.aload_n 0, 1) := by decide +kernel
theorem d_PG_begin_1 : decode b_PG_begin 1 = .ok (.getfield 34, 3) := by decide +kernel
theorem d_PG_begin_4 : decode b_PG_begin 4 = .ok (.ifCond .ne 56, 3) := by decide +kernel
theorem d_PG_begin_7 : decode b_PG_begin 7 = .ok (.aload_n 0, 1) := by decide +kernel
theorem d_PG_begin_8 : decode b_PG_begin 8 = .ok (.getfield 10, 3) := by decide +kernel
theorem d_PG_begin_11 : decode b_PG_begin 11 = .ok (.getfield 101, 3) := by decide +kernel
theorem d_PG_begin_14 : decode b_PG_begin 14 = .ok (.getfield 104, 3) := by decide +kernel
theorem d_PG_begin_17 : decode b_PG_begin 17 = .ok (.ifCond .eq 43, 3) := by decide +kernel
theorem d_PG_begin_20 : decode b_PG_begin 20 = .ok (.iload_n 1, 1) := by decide +kernel
theorem d_PG_begin_21 : decode b_PG_begin 21 = .ok (.iconst 0, 1) := by decide +kernel
theorem d_PG_begin_22 : decode b_PG_begin 22 = .ok (.bipush 6, 2) := by decide +kernel
theorem d_PG_begin_24 : decode b_PG_begin 24 = .ok (.invokestatic 46, 3) := by decide +kernel
theorem d_PG_begin_27 : decode b_PG_begin 27 = .ok (.ifCond .eq 33, 3) := by decide +kernel
theorem d_PG_begin_30 : decode b_PG_begin 30 = .ok (.iload_n 2, 1) := by decide +kernel
theorem d_PG_begin_31 : decode b_PG_begin 31 = .ok (.iconst 0, 1) := by decide +kernel
theorem d_PG_begin_32 : decode b_PG_begin 32 = .ok (.iconst 4, 1) := by decide +kernel
theorem d_PG_begin_33 : decode b_PG_begin 33 = .ok (.invokestatic 46, 3) := by decide +kernel
theorem d_PG_begin_36 : decode b_PG_begin 36 = .ok (.ifCond .eq 24, 3) := by decide +kernel
theorem d_PG_begin_39 : decode b_PG_begin 39 = .ok (.iload_n 3, 1) := by decide +kernel
theorem d_PG_begin_40 : decode b_PG_begin 40 = .ok (.iconst 0, 1) := by decide +kernel
theorem d_PG_begin_41 : decode b_PG_begin 41 = .ok (.bipush 9, 2) := by decide +kernel
theorem d_PG_begin_43 : decode b_PG_begin 43 = .ok (.invokestatic 46, 3) := by decide +kernel
theorem d_PG_begin_46 : decode b_PG_begin 46 = .ok (.ifCond .eq 14, 3) := by decide +kernel
theorem d_PG_begin_49 : decode b_PG_begin 49 = .ok (.iload 4, 2) := by decide +kernel
theorem d_PG_begin_51 : decode b_PG_begin 51 = .ok (.iconst 1, 1) := by decide +kernel
theorem d_PG_begin_52 : decode b_PG_begin 52 = .ok (.bipush 8, 2) := by decide +kernel
theorem d_PG_begin_54 : decode b_PG_begin 54 = .ok (.invokestatic 46, 3) := by decide +kernel
theorem d_PG_begin_57 : decode b_PG_begin 57 = .ok (.ifCond .ne 5, 3) := by decide +kernel
theorem d_PG_begin_60 : decode b_PG_begin 60 = .ok (.iconst 0, 1) := by decide +kernel
theorem d_PG_begin_61 : decode b_PG_begin 61 = .ok (.ireturn, 1) := by decide +kernel
theorem d_PG_begin_62 : decode b_PG_begin 62 = .ok (.aload_n 0, 1) := by decide +kernel
theorem d_PG_begin_63 : decode b_PG_begin 63 = .ok (.getfield 21, 3) := by decide +kernel
theorem d_PG_begin_66 : decode b_PG_begin 66 = .ok (.iload_n 1, 1) := by decide +kernel
theorem d_PG_begin_67 : decode b_PG_begin 67 = .ok (.iload_n 2, 1) := by decide +kernel
theorem d_PG_begin_68 : decode b_PG_begin 68 = .ok (.iload_n 3, 1) := by decide +kernel
theorem d_PG_begin_69 : decode b_PG_begin 69 = .ok (.iload 4, 2) := by decide +kernel
theorem d_PG_begin_71 : decode b_PG_begin 71 = .ok (.invokevirtual 107, 3) := by decide +kernel
theorem d_PG_begin_74 : decode b_PG_begin 74 = .ok (.aload_n 0, 1) := by decide +kernel
theorem d_PG_begin_75 : decode b_PG_begin 75 = .ok (.iconst 1, 1) := by decide +kernel
theorem d_PG_begin_76 : decode b_PG_begin 76 = .ok (.putfield 34, 3) := by decide +kernel
theorem d_PG_begin_79 : decode b_PG_begin 79 = .ok (.iconst 1, 1) := by decide +kernel
theorem d_PG_begin_80 : decode b_PG_begin 80 = .ok (.ireturn, 1) := by decide +kernel
theorem d_PG_stop_0 : decode b_PG_stop 0 = .ok (.aload_n 0, 1) := by decide +kernel
theorem d_PG_stop_1 : decode b_PG_stop 1 = .ok (.getfield 34, 3) := by decide +kernel
theorem d_PG_stop_4 : decode b_PG_stop 4 = .ok (.ifCond .ne 5, 3) := by decide +kernel
theorem d_PG_stop_7 : decode b_PG_stop 7 = .ok (.iconst 0, 1) := by decide +kernel
theorem d_PG_stop_8 : decode b_PG_stop 8 = .ok (.ireturn, 1) := by decide +kernel
theorem d_PG_stop_9 : decode b_PG_stop 9 = .ok (.aload_n 0, 1) := by decide +kernel
theorem d_PG_stop_10 : decode b_PG_stop 10 = .ok (.iconst 0, 1) := by decide +kernel
theorem d_PG_stop_11 : decode b_PG_stop 11 = .ok (.putfield 34, 3) := by decide +kernel
theorem d_PG_stop_14 : decode b_PG_stop 14 = .ok (.iconst 1, 1) := by decide +kernel
theorem d_PG_stop_15 : decode b_PG_stop 15 = .ok (.ireturn, 1) := by decide +kernel
theorem d_PG_work_0 : decode b_PG_work 0 = .ok (.aload_n 0, 1) := by decide +kernel
theorem d_PG_work_1 : decode b_PG_work 1 = .ok (.getfield 34, 3) := by decide +kernel
theorem d_PG_work_4 : decode b_PG_work 4 = .ok (.ifCond .eq 13, 3) := by decide +kernel
theorem d_PG_work_7 : decode b_PG_work 7 = .ok (.iload_n 1, 1) := by decide +kernel
theorem d_PG_work_8 : decode b_PG_work 8 = .ok (.iconst 1, 1) := by decide +kernel
theorem d_PG_work_9 : decode b_PG_work 9 = .ok (.bipush 10, 2) := by decide +kernel
theorem d_PG_work_11 : decode b_PG_work 11 = .ok (.invokestatic 46, 3) := by decide +kernel
theorem d_PG_work_14 : decode b_PG_work 14 = .ok (.ifCond .ne 5, 3) := by decide +kernel
theorem d_PG_work_17 : decode b_PG_work 17 = .ok (.iconst (-1), 1) := by decide +kernel
theorem d_PG_work_18 : decode b_PG_work 18 = .ok (.ireturn, 1) := by decide +kernel
theorem d_PG_work_19 : decode b_PG_work 19 = .ok (.aload_n 0, 1) := by decide +kernel
theorem d_PG_work_20 : decode b_PG_work 20 = .ok (.getfield 21, 3) := by decide +kernel
theorem d_PG_work_23 : decode b_PG_work 23 = .ok (.getfield 111, 3) := by decide +kernel
theorem d_PG_work_26 : decode b_PG_work 26 = .ok (.istore_n 2, 1) := by decide +kernel
theorem d_PG_work_27 : decode b_PG_work 27 = .ok (.iconst 0, 1) := by decide +kernel
theorem d_PG_work_28 : decode b_PG_work 28 = .ok (.istore_n 3, 1) := by decide +kernel
theorem d_PG_work_29 : decode b_PG_work 29 = .ok (.iload_n 3, 1) := by decide +kernel
theorem d_PG_work_30 : decode b_PG_work 30 = .ok (.iload_n 1, 1) := by decide +kernel
theorem d_PG_work_31 : decode b_PG_work 31 = .ok (.if_icmp .ge 26, 3) := by decide +kernel
theorem d_PG_work_34 : decode b_PG_work 34 = .ok (.aload_n 0, 1) := by decide +kernel
theorem d_PG_work_35 : decode b_PG_work 35 = .ok (.getfield 21, 3) := by decide +kernel
theorem d_PG_work_38 : decode b_PG_work 38 = .ok (.invokevirtual 114, 3) := by decide +kernel
theorem d_PG_work_41 : decode b_PG_work 41 = .ok (.ifCond .le 16, 3) := by decide +kernel
theorem d_PG_work_44 : decode b_PG_work 44 = .ok (.aload_n 0, 1) := by decide +kernel
theorem d_PG_work_45 : decode b_PG_work 45 = .ok (.getfield 21, 3) := by decide +kernel
theorem d_PG_work_48 : decode b_PG_work 48 = .ok (.invokevirtual 118, 3) := by decide +kernel
theorem d_PG_work_51 : decode b_PG_work 51 = .ok (.iinc 3 1, 3) := by decide +kernel
theorem d_PG_work_54 : decode b_PG_work 54 = .ok (.goto (-25), 3) := by decide +kernel
theorem d_PG_work_57 : decode b_PG_work 57 = .ok (.aload_n 0, 1) := by decide +kernel
theorem d_PG_work_58 : decode b_PG_work 58 = .ok (.getfield 21, 3) := by decide +kernel
theorem d_PG_work_61 : decode b_PG_work 61 = .ok (.getfield 111, 3) := by decide +kernel
theorem d_PG_work_64 : decode b_PG_work 64 = .ok (.iload_n 2, 1) := by decide +kernel
theorem d_PG_work_65 : decode b_PG_work 65 = .ok (.isub, 1) := by decide +kernel
theorem d_PG_work_66 : decode b_PG_work 66 = .ok (.ireturn, 1) := by decide +kernel
theorem d_PG_crash_0 : decode b_PG_crash 0 = .ok (.aload_n 0, 1) := by decide +kernel
theorem d_PG_crash_1 : decode b_PG_crash 1 = .ok (.getfield 34, 3) := by decide +kernel
theorem d_PG_crash_4 : decode b_PG_crash 4 = .ok (.ifCond .ne 5, 3) := by decide +kernel
theorem d_PG_crash_7 : decode b_PG_crash 7 = .ok (.iconst (-1), 1) := by decide +kernel
theorem d_PG_crash_8 : decode b_PG_crash 8 = .ok (.ireturn, 1) := by decide +kernel
theorem d_PG_crash_9 : decode b_PG_crash 9 = .ok (.aload_n 0, 1) := by decide +kernel
theorem d_PG_crash_10 : decode b_PG_crash 10 = .ok (.getfield 21, 3) := by decide +kernel
theorem d_PG_crash_13 : decode b_PG_crash 13 = .ok (.invokevirtual 121, 3) := by decide +kernel
theorem d_PG_crash_16 : decode b_PG_crash 16 = .ok (.ireturn, 1) := by decide +kernel
theorem d_PG_allowed_0 : decode b_PG_allowed 0 = .ok (.aload_n 0, 1) := by decide +kernel
theorem d_PG_allowed_1 : decode b_PG_allowed 1 = .ok (.getfield 10, 3) := by decide +kernel
theorem d_PG_allowed_4 : decode b_PG_allowed 4 = .ok (.iload_n 1, 1) := by decide +kernel
theorem d_PG_allowed_5 : decode b_PG_allowed 5 = .ok (.invokevirtual 65, 3) := by decide +kernel
theorem d_PG_allowed_8 : decode b_PG_allowed 8 = .ok (.ifCond .eq 18, 3) := by decide +kernel
theorem d_PG_allowed_11 : decode b_PG_allowed 11 = .ok (.aload_n 0, 1) := by decide +kernel
theorem d_PG_allowed_12 : decode b_PG_allowed 12 = .ok (.getfield 10, 3) := by decide +kernel
theorem d_PG_allowed_15 : decode b_PG_allowed 15 = .ok (.iload_n 1, 1) := by decide +kernel
theorem d_PG_allowed_16 : decode b_PG_allowed 16 = .ok (.invokevirtual 124, 3) := by decide +kernel
theorem d_PG_allowed_19 : decode b_PG_allowed 19 = .ok (.ifCond .eq 7, 3) := by decide +kernel
theorem d_PG_allowed_22 : decode b_PG_allowed 22 = .ok (.iconst 1, 1) := by decide +kernel
theorem d_PG_allowed_23 : decode b_PG_allowed 23 = .ok (.goto 4, 3) := by decide +kernel
theorem d_PG_allowed_26 : decode b_PG_allowed 26 = .ok (.iconst 0, 1) := by decide +kernel
theorem d_PG_allowed_27 : decode b_PG_allowed 27 = .ok (.ireturn, 1) := by decide +kernel
theorem d_PG_found_0 : decode b_PG_found 0 = .ok (.aload_n 0, 1) := by decide +kernel
theorem d_PG_found_1 : decode b_PG_found 1 = .ok (.getfield 34, 3) := by decide +kernel
theorem d_PG_found_4 : decode b_PG_found 4 = .ok (.ifCond .eq 14, 3) := by decide +kernel
theorem d_PG_found_7 : decode b_PG_found 7 = .ok (.aload_n 0, 1) := by decide +kernel
theorem d_PG_found_8 : decode b_PG_found 8 = .ok (.getfield 10, 3) := by decide +kernel
theorem d_PG_found_11 : decode b_PG_found 11 = .ok (.iload_n 1, 1) := by decide +kernel
theorem d_PG_found_12 : decode b_PG_found 12 = .ok (.invokevirtual 65, 3) := by decide +kernel
theorem d_PG_found_15 : decode b_PG_found 15 = .ok (.ifCond .ne 5, 3) := by decide +kernel
theorem d_PG_found_18 : decode b_PG_found 18 = .ok (.iconst (-1), 1) := by decide +kernel
theorem d_PG_found_19 : decode b_PG_found 19 = .ok (.ireturn, 1) := by decide +kernel
theorem d_PG_found_20 : decode b_PG_found 20 = .ok (.aload_n 0, 1) := by decide +kernel
theorem d_PG_found_21 : decode b_PG_found 21 = .ok (.getfield 21, 3) := by decide +kernel
theorem d_PG_found_24 : decode b_PG_found 24 = .ok (.iload_n 1, 1) := by decide +kernel
theorem d_PG_found_25 : decode b_PG_found 25 = .ok (.iconst 0, 1) := by decide +kernel
theorem d_PG_found_26 : decode b_PG_found 26 = .ok (.invokevirtual 127, 3) := by decide +kernel
theorem d_PG_found_29 : decode b_PG_found 29 = .ok (.ireturn, 1) := by decide +kernel
theorem d_PG_clock_0 : decode b_PG_clock 0 = .ok (.aload_n 0, 1) := by decide +kernel
theorem d_PG_clock_1 : decode b_PG_clock 1 = .ok (.getfield 34, 3) := by decide +kernel
theorem d_PG_clock_4 : decode b_PG_clock 4 = .ok (.ifCond .eq 13, 3) := by decide +kernel
theorem d_PG_clock_7 : decode b_PG_clock 7 = .ok (.aload_n 0, 1) := by decide +kernel
theorem d_PG_clock_8 : decode b_PG_clock 8 = .ok (.getfield 21, 3) := by decide +kernel
theorem d_PG_clock_11 : decode b_PG_clock 11 = .ok (.getfield 131, 3) := by decide +kernel
theorem d_PG_clock_14 : decode b_PG_clock 14 = .ok (.goto 4, 3) := by decide +kernel
theorem d_PG_clock_17 : decode b_PG_clock 17 = .ok (.iconst 0, 1) := by decide +kernel
theorem d_PG_clock_18 : decode b_PG_clock 18 = .ok (.ireturn, 1) := by decide +kernel
theorem d_PG_fetches_0 : decode b_PG_fetches 0 = .ok (.aload_n 0, 1) := by decide +kernel
theorem d_PG_fetches_1 : decode b_PG_fetches 1 = .ok (.getfield 34, 3) := by decide +kernel
theorem d_PG_fetches_4 : decode b_PG_fetches 4 = .ok (.ifCond .eq 13, 3) := by decide +kernel
theorem d_PG_fetches_7 : decode b_PG_fetches 7 = .ok (.aload_n 0, 1) := by decide +kernel
theorem d_PG_fetches_8 : decode b_PG_fetches 8 = .ok (.getfield 21, 3) := by decide +kernel
theorem d_PG_fetches_11 : decode b_PG_fetches 11 = .ok (.getfield 111, 3) := by decide +kernel
theorem d_PG_fetches_14 : decode b_PG_fetches 14 = .ok (.goto 4, 3) := by decide +kernel
theorem d_PG_fetches_17 : decode b_PG_fetches 17 = .ok (.iconst 0, 1) := by decide +kernel
theorem d_PG_fetches_18 : decode b_PG_fetches 18 = .ok (.ireturn, 1) := by decide +kernel
theorem d_PG_waiting_0 : decode b_PG_waiting 0 = .ok (.aload_n 0, 1) := by decide +kernel
theorem d_PG_waiting_1 : decode b_PG_waiting 1 = .ok (.getfield 34, 3) := by decide +kernel
theorem d_PG_waiting_4 : decode b_PG_waiting 4 = .ok (.ifCond .eq 13, 3) := by decide +kernel
theorem d_PG_waiting_7 : decode b_PG_waiting 7 = .ok (.aload_n 0, 1) := by decide +kernel
theorem d_PG_waiting_8 : decode b_PG_waiting 8 = .ok (.getfield 21, 3) := by decide +kernel
theorem d_PG_waiting_11 : decode b_PG_waiting 11 = .ok (.invokevirtual 114, 3) := by decide +kernel
theorem d_PG_waiting_14 : decode b_PG_waiting 14 = .ok (.goto 4, 3) := by decide +kernel
theorem d_PG_waiting_17 : decode b_PG_waiting 17 = .ok (.iconst 0, 1) := by decide +kernel
theorem d_PG_waiting_18 : decode b_PG_waiting 18 = .ok (.ireturn, 1) := by decide +kernel
theorem d_PG_corpusAt_0 : decode b_PG_corpusAt 0 = .ok (.aload_n 0, 1) := by decide +kernel
theorem d_PG_corpusAt_1 : decode b_PG_corpusAt 1 = .ok (.getfield 34, 3) := by decide +kernel
theorem d_PG_corpusAt_4 : decode b_PG_corpusAt 4 = .ok (.ifCond .eq 17, 3) := by decide +kernel
theorem d_PG_corpusAt_7 : decode b_PG_corpusAt 7 = .ok (.aload_n 0, 1) := by decide +kernel
theorem d_PG_corpusAt_8 : decode b_PG_corpusAt 8 = .ok (.getfield 21, 3) := by decide +kernel
theorem d_PG_corpusAt_11 : decode b_PG_corpusAt 11 = .ok (.getfield 134, 3) := by decide +kernel
theorem d_PG_corpusAt_14 : decode b_PG_corpusAt 14 = .ok (.iload_n 1, 1) := by decide +kernel
theorem d_PG_corpusAt_15 : decode b_PG_corpusAt 15 = .ok (.invokevirtual 137, 3) := by decide +kernel
theorem d_PG_corpusAt_18 : decode b_PG_corpusAt 18 = .ok (.goto 4, 3) := by decide +kernel
theorem d_PG_corpusAt_21 : decode b_PG_corpusAt 21 = .ok (.iconst (-1), 1) := by decide +kernel
theorem d_PG_corpusAt_22 : decode b_PG_corpusAt 22 = .ok (.ireturn, 1) := by decide +kernel
theorem d_PG_document_0 : decode b_PG_document 0 = .ok (.aload_n 0, 1) := by decide +kernel
theorem d_PG_document_1 : decode b_PG_document 1 = .ok (.getfield 34, 3) := by decide +kernel
theorem d_PG_document_4 : decode b_PG_document 4 = .ok (.ifCond .eq 14, 3) := by decide +kernel
theorem d_PG_document_7 : decode b_PG_document 7 = .ok (.aload_n 0, 1) := by decide +kernel
theorem d_PG_document_8 : decode b_PG_document 8 = .ok (.getfield 30, 3) := by decide +kernel
theorem d_PG_document_11 : decode b_PG_document 11 = .ok (.iload_n 1, 1) := by decide +kernel
theorem d_PG_document_12 : decode b_PG_document 12 = .ok (.invokevirtual 141, 3) := by decide +kernel
theorem d_PG_document_15 : decode b_PG_document 15 = .ok (.goto 4, 3) := by decide +kernel
theorem d_PG_document_18 : decode b_PG_document 18 = .ok (.iconst (-1), 1) := by decide +kernel
theorem d_PG_document_19 : decode b_PG_document 19 = .ok (.ireturn, 1) := by decide +kernel
theorem d_PG_rank_0 : decode b_PG_rank 0 = .ok (.aload_n 0, 1) := by decide +kernel
theorem d_PG_rank_1 : decode b_PG_rank 1 = .ok (.getfield 34, 3) := by decide +kernel
theorem d_PG_rank_4 : decode b_PG_rank 4 = .ok (.ifCond .eq 24, 3) := by decide +kernel
theorem d_PG_rank_7 : decode b_PG_rank 7 = .ok (.iload_n 2, 1) := by decide +kernel
theorem d_PG_rank_8 : decode b_PG_rank 8 = .ok (.iconst 0, 1) := by decide +kernel
theorem d_PG_rank_9 : decode b_PG_rank 9 = .ok (.bipush 12, 2) := by decide +kernel
theorem d_PG_rank_11 : decode b_PG_rank 11 = .ok (.invokestatic 46, 3) := by decide +kernel
theorem d_PG_rank_14 : decode b_PG_rank 14 = .ok (.ifCond .eq 14, 3) := by decide +kernel
theorem d_PG_rank_17 : decode b_PG_rank 17 = .ok (.aload_n 0, 1) := by decide +kernel
theorem d_PG_rank_18 : decode b_PG_rank 18 = .ok (.getfield 30, 3) := by decide +kernel
theorem d_PG_rank_21 : decode b_PG_rank 21 = .ok (.iload_n 1, 1) := by decide +kernel
theorem d_PG_rank_22 : decode b_PG_rank 22 = .ok (.invokevirtual 144, 3) := by decide +kernel
theorem d_PG_rank_25 : decode b_PG_rank 25 = .ok (.ifCond .ne 5, 3) := by decide +kernel
theorem d_PG_rank_28 : decode b_PG_rank 28 = .ok (.lconst 0, 1) := by decide +kernel
theorem d_PG_rank_29 : decode b_PG_rank 29 = .ok (.lreturn, 1) := by decide +kernel
theorem d_PG_rank_30 : decode b_PG_rank 30 = .ok (.aload_n 0, 1) := by decide +kernel
theorem d_PG_rank_31 : decode b_PG_rank 31 = .ok (.getfield 30, 3) := by decide +kernel
theorem d_PG_rank_34 : decode b_PG_rank 34 = .ok (.iload_n 2, 1) := by decide +kernel
theorem d_PG_rank_35 : decode b_PG_rank 35 = .ok (.invokevirtual 147, 3) := by decide +kernel
theorem d_PG_rank_38 : decode b_PG_rank 38 = .ok (.aload_n 0, 1) := by decide +kernel
theorem d_PG_rank_39 : decode b_PG_rank 39 = .ok (.getfield 30, 3) := by decide +kernel
theorem d_PG_rank_42 : decode b_PG_rank 42 = .ok (.getfield 151, 3) := by decide +kernel
theorem d_PG_rank_45 : decode b_PG_rank 45 = .ok (.iload_n 1, 1) := by decide +kernel
theorem d_PG_rank_46 : decode b_PG_rank 46 = .ok (.laload, 1) := by decide +kernel
theorem d_PG_rank_47 : decode b_PG_rank 47 = .ok (.lreturn, 1) := by decide +kernel
theorem d_PG_best_0 : decode b_PG_best 0 = .ok (.aload_n 0, 1) := by decide +kernel
theorem d_PG_best_1 : decode b_PG_best 1 = .ok (.getfield 34, 3) := by decide +kernel
theorem d_PG_best_4 : decode b_PG_best 4 = .ok (.ifCond .ne 5, 3) := by decide +kernel
theorem d_PG_best_7 : decode b_PG_best 7 = .ok (.iconst (-1), 1) := by decide +kernel
theorem d_PG_best_8 : decode b_PG_best 8 = .ok (.ireturn, 1) := by decide +kernel
theorem d_PG_best_9 : decode b_PG_best 9 = .ok (.aload_n 0, 1) := by decide +kernel
theorem d_PG_best_10 : decode b_PG_best 10 = .ok (.getfield 30, 3) := by decide +kernel
theorem d_PG_best_13 : decode b_PG_best 13 = .ok (.bipush 8, 2) := by decide +kernel
theorem d_PG_best_15 : decode b_PG_best 15 = .ok (.invokevirtual 147, 3) := by decide +kernel
theorem d_PG_best_18 : decode b_PG_best 18 = .ok (.aload_n 0, 1) := by decide +kernel
theorem d_PG_best_19 : decode b_PG_best 19 = .ok (.getfield 30, 3) := by decide +kernel
theorem d_PG_best_22 : decode b_PG_best 22 = .ok (.iload_n 1, 1) := by decide +kernel
theorem d_PG_best_23 : decode b_PG_best 23 = .ok (.iload_n 2, 1) := by decide +kernel
theorem d_PG_best_24 : decode b_PG_best 24 = .ok (.invokevirtual 155, 3) := by decide +kernel
theorem d_PG_best_27 : decode b_PG_best 27 = .ok (.aload_n 0, 1) := by decide +kernel
theorem d_PG_best_28 : decode b_PG_best 28 = .ok (.getfield 30, 3) := by decide +kernel
theorem d_PG_best_31 : decode b_PG_best 31 = .ok (.iload_n 3, 1) := by decide +kernel
theorem d_PG_best_32 : decode b_PG_best 32 = .ok (.invokevirtual 159, 3) := by decide +kernel
theorem d_PG_best_35 : decode b_PG_best 35 = .ok (.ireturn, 1) := by decide +kernel
theorem d_PG_canChange_0 : decode b_PG_canChange 0 = .ok (.aload_n 0, 1) := by decide +kernel
theorem d_PG_canChange_1 : decode b_PG_canChange 1 = .ok (.getfield 34, 3) := by decide +kernel
theorem d_PG_canChange_4 : decode b_PG_canChange 4 = .ok (.ifCond .ne 18, 3) := by decide +kernel
theorem d_PG_canChange_7 : decode b_PG_canChange 7 = .ok (.aload_n 0, 1) := by decide +kernel
theorem d_PG_canChange_8 : decode b_PG_canChange 8 = .ok (.getfield 10, 3) := by decide +kernel
theorem d_PG_canChange_11 : decode b_PG_canChange 11 = .ok (.iload_n 1, 1) := by decide +kernel
theorem d_PG_canChange_12 : decode b_PG_canChange 12 = .ok (.invokevirtual 65, 3) := by decide +kernel
theorem d_PG_canChange_15 : decode b_PG_canChange 15 = .ok (.ifCond .eq 7, 3) := by decide +kernel
theorem d_PG_canChange_18 : decode b_PG_canChange 18 = .ok (.iconst 1, 1) := by decide +kernel
theorem d_PG_canChange_19 : decode b_PG_canChange 19 = .ok (.goto 4, 3) := by decide +kernel
theorem d_PG_canChange_22 : decode b_PG_canChange 22 = .ok (.iconst 0, 1) := by decide +kernel
theorem d_PG_canChange_23 : decode b_PG_canChange 23 = .ok (.ireturn, 1) := by decide +kernel
theorem d_PG_isWithin_0 : decode b_PG_isWithin 0 = .ok (.iload_n 1, 1) := by decide +kernel
theorem d_PG_isWithin_1 : decode b_PG_isWithin 1 = .ok (.iload_n 0, 1) := by decide +kernel
theorem d_PG_isWithin_2 : decode b_PG_isWithin 2 = .ok (.if_icmp .gt 12, 3) := by decide +kernel
theorem d_PG_isWithin_5 : decode b_PG_isWithin 5 = .ok (.iload_n 0, 1) := by decide +kernel
theorem d_PG_isWithin_6 : decode b_PG_isWithin 6 = .ok (.iload_n 2, 1) := by decide +kernel
theorem d_PG_isWithin_7 : decode b_PG_isWithin 7 = .ok (.if_icmp .gt 7, 3) := by decide +kernel
theorem d_PG_isWithin_10 : decode b_PG_isWithin 10 = .ok (.iconst 1, 1) := by decide +kernel
theorem d_PG_isWithin_11 : decode b_PG_isWithin 11 = .ok (.goto 4, 3) := by decide +kernel
theorem d_PG_isWithin_14 : decode b_PG_isWithin 14 = .ok (.iconst 0, 1) := by decide +kernel
theorem d_PG_isWithin_15 : decode b_PG_isWithin 15 = .ok (.ireturn, 1) := by decide +kernel
theorem d_PG_isHost_0 : decode b_PG_isHost 0 = .ok (.iload_n 0, 1) := by decide +kernel
theorem d_PG_isHost_1 : decode b_PG_isHost 1 = .ok (.iconst 0, 1) := by decide +kernel
theorem d_PG_isHost_2 : decode b_PG_isHost 2 = .ok (.iconst 5, 1) := by decide +kernel
theorem d_PG_isHost_3 : decode b_PG_isHost 3 = .ok (.invokestatic 46, 3) := by decide +kernel
theorem d_PG_isHost_6 : decode b_PG_isHost 6 = .ok (.ireturn, 1) := by decide +kernel
end
section
/-! Decoded instructions of Mod. -/
theorem d_Mod_init_0 : decode b_Mod_init 0 = .ok (.aload_n 0, 1) := by decide +kernel
theorem d_Mod_init_1 : decode b_Mod_init 1 = .ok (.invokespecial 1, 3) := by decide +kernel
theorem d_Mod_init_4 : decode b_Mod_init 4 = .ok (.aload_n 0, 1) := by decide +kernel
theorem d_Mod_init_5 : decode b_Mod_init 5 = .ok (.bipush 32, 2) := by decide +kernel
theorem d_Mod_init_7 : decode b_Mod_init 7 = .ok (.newarray .int, 2) := by decide +kernel
theorem d_Mod_init_9 : decode b_Mod_init 9 = .ok (.putfield 7, 3) := by decide +kernel
theorem d_Mod_init_12 : decode b_Mod_init 12 = .ok (.aload_n 0, 1) := by decide +kernel
theorem d_Mod_init_13 : decode b_Mod_init 13 = .ok (.bipush 32, 2) := by decide +kernel
theorem d_Mod_init_15 : decode b_Mod_init 15 = .ok (.newarray .int, 2) := by decide +kernel
theorem d_Mod_init_17 : decode b_Mod_init 17 = .ok (.putfield 13, 3) := by decide +kernel
theorem d_Mod_init_20 : decode b_Mod_init 20 = .ok (.aload_n 0, 1) := by decide +kernel
theorem d_Mod_init_21 : decode b_Mod_init 21 = .ok (.bipush 32, 2) := by decide +kernel
theorem d_Mod_init_23 : decode b_Mod_init 23 = .ok (.newarray .int, 2) := by decide +kernel
theorem d_Mod_init_25 : decode b_Mod_init 25 = .ok (.putfield 16, 3) := by decide +kernel
theorem d_Mod_init_28 : decode b_Mod_init 28 = .ok (.aload_n 0, 1) := by decide +kernel
theorem d_Mod_init_29 : decode b_Mod_init 29 = .ok (.sipush 256, 3) := by decide +kernel
theorem d_Mod_init_32 : decode b_Mod_init 32 = .ok (.newarray .int, 2) := by decide +kernel
theorem d_Mod_init_34 : decode b_Mod_init 34 = .ok (.putfield 19, 3) := by decide +kernel
theorem d_Mod_init_37 : decode b_Mod_init 37 = .ok (.aload_n 0, 1) := by decide +kernel
theorem d_Mod_init_38 : decode b_Mod_init 38 = .ok (.bipush 32, 2) := by decide +kernel
theorem d_Mod_init_40 : decode b_Mod_init 40 = .ok (.newarray .int, 2) := by decide +kernel
theorem d_Mod_init_42 : decode b_Mod_init 42 = .ok (.putfield 22, 3) := by decide +kernel
theorem d_Mod_init_45 : decode b_Mod_init 45 = .ok (.aload_n 0, 1) := by decide +kernel
theorem d_Mod_init_46 : decode b_Mod_init 46 = .ok (.sipush 160, 3) := by decide +kernel
theorem d_Mod_init_49 : decode b_Mod_init 49 = .ok (.newarray .int, 2) := by decide +kernel
theorem d_Mod_init_51 : decode b_Mod_init 51 = .ok (.putfield 25, 3) := by decide +kernel
theorem d_Mod_init_54 : decode b_Mod_init 54 = .ok (.aload_n 0, 1) := by decide +kernel
theorem d_Mod_init_55 : decode b_Mod_init 55 = .ok (.bipush 32, 2) := by decide +kernel
theorem d_Mod_init_57 : decode b_Mod_init 57 = .ok (.newarray .int, 2) := by decide +kernel
theorem d_Mod_init_59 : decode b_Mod_init 59 = .ok (.putfield 28, 3) := by decide +kernel
theorem d_Mod_init_62 : decode b_Mod_init 62 = .ok (.aload_n 0, 1) := by decide +kernel
theorem d_Mod_init_63 : decode b_Mod_init 63 = .ok (.bipush 24, 2) := by decide +kernel
theorem d_Mod_init_65 : decode b_Mod_init 65 = .ok (.newarray .int, 2) := by decide +kernel
theorem d_Mod_init_67 : decode b_Mod_init 67 = .ok (.putfield 31, 3) := by decide +kernel
theorem d_Mod_init_70 : decode b_Mod_init 70 = .ok (.aload_n 0, 1) := by decide +kernel
theorem d_Mod_init_71 : decode b_Mod_init 71 = .ok (.bipush 24, 2) := by decide +kernel
theorem d_Mod_init_73 : decode b_Mod_init 73 = .ok (.newarray .boolean, 2) := by decide +kernel
theorem d_Mod_init_75 : decode b_Mod_init 75 = .ok (.putfield 34, 3) := by decide +kernel
theorem d_Mod_init_78 : decode b_Mod_init 78 = .ok (.aload_n 0, 1) := by decide +kernel
theorem d_Mod_init_79 : decode b_Mod_init 79 = .ok (.bipush 6, 2) := by decide +kernel
theorem d_Mod_init_81 : decode b_Mod_init 81 = .ok (.newarray .int, 2) := by decide +kernel
theorem d_Mod_init_83 : decode b_Mod_init 83 = .ok (.putfield 38, 3) := by decide +kernel
theorem d_Mod_init_86 : decode b_Mod_init 86 = .ok (.aload_n 0, 1) := by decide +kernel
theorem d_Mod_init_87 : decode b_Mod_init 87 = .ok (.bipush 6, 2) := by decide +kernel
theorem d_Mod_init_89 : decode b_Mod_init 89 = .ok (.newarray .int, 2) := by decide +kernel
theorem d_Mod_init_91 : decode b_Mod_init 91 = .ok (.putfield 41, 3) := by decide +kernel
theorem d_Mod_init_94 : decode b_Mod_init 94 = .ok (.aload_n 0, 1) := by decide +kernel
theorem d_Mod_init_95 : decode b_Mod_init 95 = .ok (.bipush 32, 2) := by decide +kernel
theorem d_Mod_init_97 : decode b_Mod_init 97 = .ok (.newarray .int, 2) := by decide +kernel
theorem d_Mod_init_99 : decode b_Mod_init 99 = .ok (.putfield 44, 3) := by decide +kernel
theorem d_Mod_init_102 : decode b_Mod_init 102 = .ok (.aload_n 0, 1) := by decide +kernel
theorem d_Mod_init_103 : decode b_Mod_init 103 = .ok (.bipush 32, 2) := by decide +kernel
theorem d_Mod_init_105 : decode b_Mod_init 105 = .ok (.newarray .int, 2) := by decide +kernel
theorem d_Mod_init_107 : decode b_Mod_init 107 = .ok (.putfield 47, 3) := by decide +kernel
theorem d_Mod_init_110 : decode b_Mod_init 110 = .ok (.aload_n 0, 1) := by decide +kernel
theorem d_Mod_init_111 : decode b_Mod_init 111 = .ok (.bipush 32, 2) := by decide +kernel
theorem d_Mod_init_113 : decode b_Mod_init 113 = .ok (.newarray .int, 2) := by decide +kernel
theorem d_Mod_init_115 : decode b_Mod_init 115 = .ok (.putfield 50, 3) := by decide +kernel
theorem d_Mod_init_118 : decode b_Mod_init 118 = .ok (.aload_n 0, 1) := by decide +kernel
theorem d_Mod_init_119 : decode b_Mod_init 119 = .ok (.bipush 32, 2) := by decide +kernel
theorem d_Mod_init_121 : decode b_Mod_init 121 = .ok (.newarray .int, 2) := by decide +kernel
theorem d_Mod_init_123 : decode b_Mod_init 123 = .ok (.putfield 53, 3) := by decide +kernel
theorem d_Mod_init_126 : decode b_Mod_init 126 = .ok (.aload_n 0, 1) := by decide +kernel
theorem d_Mod_init_127 : decode b_Mod_init 127 = .ok (.bipush 6, 2) := by decide +kernel
theorem d_Mod_init_129 : decode b_Mod_init 129 = .ok (.newarray .int, 2) := by decide +kernel
theorem d_Mod_init_131 : decode b_Mod_init 131 = .ok (.putfield 56, 3) := by decide +kernel
theorem d_Mod_init_134 : decode b_Mod_init 134 = .ok (.aload_n 0, 1) := by decide +kernel
theorem d_Mod_init_135 : decode b_Mod_init 135 = .ok (.sipush 160, 3) := by decide +kernel
theorem d_Mod_init_138 : decode b_Mod_init 138 = .ok (.newarray .int, 2) := by decide +kernel
theorem d_Mod_init_140 : decode b_Mod_init 140 = .ok (.putfield 59, 3) := by decide +kernel
theorem d_Mod_init_143 : decode b_Mod_init 143 = .ok (.aload_n 0, 1) := by decide +kernel
theorem d_Mod_init_144 : decode b_Mod_init 144 = .ok (.bipush 32, 2) := by decide +kernel
theorem d_Mod_init_146 : decode b_Mod_init 146 = .ok (.newarray .long, 2) := by decide +kernel
theorem d_Mod_init_148 : decode b_Mod_init 148 = .ok (.putfield 62, 3) := by decide +kernel
theorem d_Mod_init_151 : decode b_Mod_init 151 = .ok (.aload_n 0, 1) := by decide +kernel
theorem d_Mod_init_152 : decode b_Mod_init 152 = .ok (.bipush 32, 2) := by decide +kernel
theorem d_Mod_init_154 : decode b_Mod_init 154 = .ok (.newarray .long, 2) := by decide +kernel
theorem d_Mod_init_156 : decode b_Mod_init 156 = .ok (.putfield 66, 3) := by decide +kernel
theorem d_Mod_init_159 : decode b_Mod_init 159 = .ok (.return_, 1) := by decide +kernel
theorem d_Mod_isPage_0 : decode b_Mod_isPage 0 = .ok (.iload_n 1, 1) := by decide +kernel
theorem d_Mod_isPage_1 : decode b_Mod_isPage 1 = .ok (.ifCond .lt 15, 3) := by decide +kernel
theorem d_Mod_isPage_4 : decode b_Mod_isPage 4 = .ok (.iload_n 1, 1) := by decide +kernel
theorem d_Mod_isPage_5 : decode b_Mod_isPage 5 = .ok (.aload_n 0, 1) := by decide +kernel
theorem d_Mod_isPage_6 : decode b_Mod_isPage 6 = .ok (.getfield 69, 3) := by decide +kernel
theorem d_Mod_isPage_9 : decode b_Mod_isPage 9 = .ok (.if_icmp .ge 7, 3) := by decide +kernel
theorem d_Mod_isPage_12 : decode b_Mod_isPage 12 = .ok (.iconst 1, 1) := by decide +kernel
theorem d_Mod_isPage_13 : decode b_Mod_isPage 13 = .ok (.goto 4, 3) := by decide +kernel
theorem d_Mod_isPage_16 : decode b_Mod_isPage 16 = .ok (.iconst 0, 1) := by decide +kernel
theorem d_Mod_isPage_17 : decode b_Mod_isPage 17 = .ok (.ireturn, 1) := by decide +kernel
theorem d_Mod_page_0 : decode b_Mod_page 0 = .ok (.aload_n 0, 1) := by decide +kernel
theorem d_Mod_page_1 : decode b_Mod_page 1 = .ok (.getfield 73, 3) := by decide +kernel
theorem d_Mod_page_4 : decode b_Mod_page 4 = .ok (.ifCond .ne 32, 3) := by decide +kernel
theorem d_Mod_page_7 : decode b_Mod_page 7 = .ok (.iload_n 1, 1) := by decide +kernel
theorem d_Mod_page_8 : decode b_Mod_page 8 = .ok (.ifCond .lt 28, 3) := by decide +kernel
theorem d_Mod_page_11 : decode b_Mod_page 11 = .ok (.iload_n 1, 1) := by decide +kernel
theorem d_Mod_page_12 : decode b_Mod_page 12 = .ok (.iconst 5, 1) := by decide +kernel
theorem d_Mod_page_13 : decode b_Mod_page 13 = .ok (.if_icmp .gt 23, 3) := by decide +kernel
theorem d_Mod_page_16 : decode b_Mod_page 16 = .ok (.iload_n 2, 1) := by decide +kernel
theorem d_Mod_page_17 : decode b_Mod_page 17 = .ok (.iconst 1, 1) := by decide +kernel
theorem d_Mod_page_18 : decode b_Mod_page 18 = .ok (.if_icmp .lt 18, 3) := by decide +kernel
theorem d_Mod_page_21 : decode b_Mod_page 21 = .ok (.iload_n 2, 1) := by decide +kernel
theorem d_Mod_page_22 : decode b_Mod_page 22 = .ok (.ldc 77, 2) := by decide +kernel
theorem d_Mod_page_24 : decode b_Mod_page 24 = .ok (.if_icmp .gt 12, 3) := by decide +kernel
theorem d_Mod_page_27 : decode b_Mod_page 27 = .ok (.aload_n 0, 1) := by decide +kernel
theorem d_Mod_page_28 : decode b_Mod_page 28 = .ok (.getfield 69, 3) := by decide +kernel
theorem d_Mod_page_31 : decode b_Mod_page 31 = .ok (.bipush 32, 2) := by decide +kernel
theorem d_Mod_page_33 : decode b_Mod_page 33 = .ok (.if_icmp .lt 5, 3) := by decide +kernel
theorem d_Mod_page_36 : decode b_Mod_page 36 = .ok (.iconst (-1), 1) := by decide +kernel
theorem d_Mod_page_37 : decode b_Mod_page 37 = .ok (.ireturn, 1) := by decide +kernel
theorem d_Mod_page_38 : decode b_Mod_page 38 = .ok (.iconst 0, 1) := by decide +kernel
theorem d_Mod_page_39 : decode b_Mod_page 39 = .ok (.istore_n 3, 1) := by decide +kernel
theorem d_Mod_page_40 : decode b_Mod_page 40 = .ok (.iload_n 3, 1) := by decide +kernel
theorem d_Mod_page_41 : decode b_Mod_page 41 = .ok (.aload_n 0, 1) := by decide +kernel
theorem d_Mod_page_42 : decode b_Mod_page 42 = .ok (.getfield 69, 3) := by decide +kernel
theorem d_Mod_page_45 : decode b_Mod_page 45 = .ok (.if_icmp .ge 31, 3) := by decide +kernel
theorem d_Mod_page_48 : decode b_Mod_page 48 = .ok (.aload_n 0, 1) := by decide +kernel
theorem d_Mod_page_49 : decode b_Mod_page 49 = .ok (.getfield 7, 3) := by decide +kernel
theorem d_Mod_page_52 : decode b_Mod_page 52 = .ok (.iload_n 3, 1) := by decide +kernel
theorem d_Mod_page_53 : decode b_Mod_page 53 = .ok (.iaload, 1) := by decide +kernel
theorem d_Mod_page_54 : decode b_Mod_page 54 = .ok (.iload_n 1, 1) := by decide +kernel
theorem d_Mod_page_55 : decode b_Mod_page 55 = .ok (.if_icmp .ne 15, 3) := by decide +kernel
theorem d_Mod_page_58 : decode b_Mod_page 58 = .ok (.aload_n 0, 1) := by decide +kernel
theorem d_Mod_page_59 : decode b_Mod_page 59 = .ok (.getfield 13, 3) := by decide +kernel
theorem d_Mod_page_62 : decode b_Mod_page 62 = .ok (.iload_n 3, 1) := by decide +kernel
theorem d_Mod_page_63 : decode b_Mod_page 63 = .ok (.iaload, 1) := by decide +kernel
theorem d_Mod_page_64 : decode b_Mod_page 64 = .ok (.iload_n 2, 1) := by decide +kernel
theorem d_Mod_page_65 : decode b_Mod_page 65 = .ok (.if_icmp .ne 5, 3) := by decide +kernel
theorem d_Mod_page_68 : decode b_Mod_page 68 = .ok (.iconst (-1), 1) := by decide +kernel
theorem d_Mod_page_69 : decode b_Mod_page 69 = .ok (.ireturn, 1) := by decide +kernel
theorem d_Mod_page_70 : decode b_Mod_page 70 = .ok (.iinc 3 1, 3) := by decide +kernel
theorem d_Mod_page_73 : decode b_Mod_page 73 = .ok (.goto (-33), 3) := by decide +kernel
theorem d_Mod_page_76 : decode b_Mod_page 76 = .ok (.aload_n 0, 1) := by decide +kernel
theorem d_Mod_page_77 : decode b_Mod_page 77 = .ok (.getfield 7, 3) := by decide +kernel
theorem d_Mod_page_80 : decode b_Mod_page 80 = .ok (.aload_n 0, 1) := by decide +kernel
theorem d_Mod_page_81 : decode b_Mod_page 81 = .ok (.getfield 69, 3) := by decide +kernel
theorem d_Mod_page_84 : decode b_Mod_page 84 = .ok (.iload_n 1, 1) := by decide +kernel
theorem d_Mod_page_85 : decode b_Mod_page 85 = .ok (.iastore, 1) := by decide +kernel
theorem d_Mod_page_86 : decode b_Mod_page 86 = .ok (.aload_n 0, 1) := by decide +kernel
theorem d_Mod_page_87 : decode b_Mod_page 87 = .ok (.getfield 13, 3) := by decide +kernel
theorem d_Mod_page_90 : decode b_Mod_page 90 = .ok (.aload_n 0, 1) := by decide +kernel
theorem d_Mod_page_91 : decode b_Mod_page 91 = .ok (.getfield 69, 3) := by decide +kernel
theorem d_Mod_page_94 : decode b_Mod_page 94 = .ok (.iload_n 2, 1) := by decide +kernel
theorem d_Mod_page_95 : decode b_Mod_page 95 = .ok (.iastore, 1) := by decide +kernel
theorem d_Mod_page_96 : decode b_Mod_page 96 = .ok (.aload_n 0, 1) := by decide +kernel
theorem d_Mod_page_97 : decode b_Mod_page 97 = .ok (.getfield 16, 3) := by decide +kernel
theorem d_Mod_page_100 : decode b_Mod_page 100 = .ok (.aload_n 0, 1) := by decide +kernel
theorem d_Mod_page_101 : decode b_Mod_page 101 = .ok (.getfield 69, 3) := by decide +kernel
theorem d_Mod_page_104 : decode b_Mod_page 104 = .ok (.bipush (-2), 2) := by decide +kernel
theorem d_Mod_page_106 : decode b_Mod_page 106 = .ok (.iastore, 1) := by decide +kernel
theorem d_Mod_page_107 : decode b_Mod_page 107 = .ok (.aload_n 0, 1) := by decide +kernel
theorem d_Mod_page_108 : decode b_Mod_page 108 = .ok (.aload_n 0, 1) := by decide +kernel
theorem d_Mod_page_109 : decode b_Mod_page 109 = .ok (.getfield 69, 3) := by decide +kernel
theorem d_Mod_page_112 : decode b_Mod_page 112 = .ok (.iconst 1, 1) := by decide +kernel
theorem d_Mod_page_113 : decode b_Mod_page 113 = .ok (.iadd, 1) := by decide +kernel
theorem d_Mod_page_114 : decode b_Mod_page 114 = .ok (.putfield 69, 3) := by decide +kernel
theorem d_Mod_page_117 : decode b_Mod_page 117 = .ok (.aload_n 0, 1) := by decide +kernel
theorem d_Mod_page_118 : decode b_Mod_page 118 = .ok (.getfield 69, 3) := by decide +kernel
theorem d_Mod_page_121 : decode b_Mod_page 121 = .ok (.iconst 1, 1) := by decide +kernel
theorem d_Mod_page_122 : decode b_Mod_page 122 = .ok (.isub, 1) := by decide +kernel
theorem d_Mod_page_123 : decode b_Mod_page 123 = .ok (.ireturn, 1) := by decide +kernel
theorem d_Mod_write_0 : decode b_Mod_write 0 = .ok (.aload_n 0, 1) := by decide +kernel
theorem d_Mod_write_1 : decode b_Mod_write 1 = .ok (.getfield 73, 3) := by decide +kernel
theorem d_Mod_write_4 : decode b_Mod_write 4 = .ok (.ifCond .ne 32, 3) := by decide +kernel
theorem d_Mod_write_7 : decode b_Mod_write 7 = .ok (.aload_n 0, 1) := by decide +kernel
theorem d_Mod_write_8 : decode b_Mod_write 8 = .ok (.iload_n 1, 1) := by decide +kernel
theorem d_Mod_write_9 : decode b_Mod_write 9 = .ok (.invokevirtual 78, 3) := by decide +kernel
theorem d_Mod_write_12 : decode b_Mod_write 12 = .ok (.ifCond .eq 24, 3) := by decide +kernel
theorem d_Mod_write_15 : decode b_Mod_write 15 = .ok (.iload_n 2, 1) := by decide +kernel
theorem d_Mod_write_16 : decode b_Mod_write 16 = .ok (.ifCond .lt 20, 3) := by decide +kernel
theorem d_Mod_write_19 : decode b_Mod_write 19 = .ok (.iload_n 2, 1) := by decide +kernel
theorem d_Mod_write_20 : decode b_Mod_write 20 = .ok (.bipush 25, 2) := by decide +kernel
theorem d_Mod_write_22 : decode b_Mod_write 22 = .ok (.if_icmp .gt 14, 3) := by decide +kernel
theorem d_Mod_write_25 : decode b_Mod_write 25 = .ok (.aload_n 0, 1) := by decide +kernel
theorem d_Mod_write_26 : decode b_Mod_write 26 = .ok (.getfield 22, 3) := by decide +kernel
theorem d_Mod_write_29 : decode b_Mod_write 29 = .ok (.iload_n 1, 1) := by decide +kernel
theorem d_Mod_write_30 : decode b_Mod_write 30 = .ok (.iaload, 1) := by decide +kernel
theorem d_Mod_write_31 : decode b_Mod_write 31 = .ok (.bipush 8, 2) := by decide +kernel
theorem d_Mod_write_33 : decode b_Mod_write 33 = .ok (.if_icmp .lt 5, 3) := by decide +kernel
theorem d_Mod_write_36 : decode b_Mod_write 36 = .ok (.iconst 0, 1) := by decide +kernel
theorem d_Mod_write_37 : decode b_Mod_write 37 = .ok (.ireturn, 1) := by decide +kernel
theorem d_Mod_write_38 : decode b_Mod_write 38 = .ok (.aload_n 0, 1) := by decide +kernel
theorem d_Mod_write_39 : decode b_Mod_write 39 = .ok (.getfield 19, 3) := by decide +kernel
theorem d_Mod_write_42 : decode b_Mod_write 42 = .ok (.bipush 8, 2) := by decide +kernel
theorem d_Mod_write_44 : decode b_Mod_write 44 = .ok (.iload_n 1, 1) := by decide +kernel
theorem d_Mod_write_45 : decode b_Mod_write 45 = .ok (.imul, 1) := by decide +kernel
theorem d_Mod_write_46 : decode b_Mod_write 46 = .ok (.aload_n 0, 1) := by decide +kernel
theorem d_Mod_write_47 : decode b_Mod_write 47 = .ok (.getfield 22, 3) := by decide +kernel
theorem d_Mod_write_50 : decode b_Mod_write 50 = .ok (.iload_n 1, 1) := by decide +kernel
theorem d_Mod_write_51 : decode b_Mod_write 51 = .ok (.iaload, 1) := by decide +kernel
theorem d_Mod_write_52 : decode b_Mod_write 52 = .ok (.iadd, 1) := by decide +kernel
theorem d_Mod_write_53 : decode b_Mod_write 53 = .ok (.iload_n 2, 1) := by decide +kernel
theorem d_Mod_write_54 : decode b_Mod_write 54 = .ok (.iastore, 1) := by decide +kernel
theorem d_Mod_write_55 : decode b_Mod_write 55 = .ok (.aload_n 0, 1) := by decide +kernel
theorem d_Mod_write_56 : decode b_Mod_write 56 = .ok (.getfield 22, 3) := by decide +kernel
theorem d_Mod_write_59 : decode b_Mod_write 59 = .ok (.iload_n 1, 1) := by decide +kernel
theorem d_Mod_write_60 : decode b_Mod_write 60 = .ok (.aload_n 0, 1) := by decide +kernel
theorem d_Mod_write_61 : decode b_Mod_write 61 = .ok (.getfield 22, 3) := by decide +kernel
theorem d_Mod_write_64 : decode b_Mod_write 64 = .ok (.iload_n 1, 1) := by decide +kernel
theorem d_Mod_write_65 : decode b_Mod_write 65 = .ok (.iaload, 1) := by decide +kernel
theorem d_Mod_write_66 : decode b_Mod_write 66 = .ok (.iconst 1, 1) := by decide +kernel
theorem d_Mod_write_67 : decode b_Mod_write 67 = .ok (.iadd, 1) := by decide +kernel
theorem d_Mod_write_68 : decode b_Mod_write 68 = .ok (.iastore, 1) := by decide +kernel
theorem d_Mod_write_69 : decode b_Mod_write 69 = .ok (.iconst 1, 1) := by decide +kernel
theorem d_Mod_write_70 : decode b_Mod_write 70 = .ok (.ireturn, 1) := by decide +kernel
theorem d_Mod_link_0 : decode b_Mod_link 0 = .ok (.aload_n 0, 1) := by decide +kernel
theorem d_Mod_link_1 : decode b_Mod_link 1 = .ok (.getfield 73, 3) := by decide +kernel
theorem d_Mod_link_4 : decode b_Mod_link 4 = .ok (.ifCond .ne 29, 3) := by decide +kernel
theorem d_Mod_link_7 : decode b_Mod_link 7 = .ok (.aload_n 0, 1) := by decide +kernel
theorem d_Mod_link_8 : decode b_Mod_link 8 = .ok (.iload_n 1, 1) := by decide +kernel
theorem d_Mod_link_9 : decode b_Mod_link 9 = .ok (.invokevirtual 78, 3) := by decide +kernel
theorem d_Mod_link_12 : decode b_Mod_link 12 = .ok (.ifCond .eq 21, 3) := by decide +kernel
theorem d_Mod_link_15 : decode b_Mod_link 15 = .ok (.aload_n 0, 1) := by decide +kernel
theorem d_Mod_link_16 : decode b_Mod_link 16 = .ok (.iload_n 2, 1) := by decide +kernel
theorem d_Mod_link_17 : decode b_Mod_link 17 = .ok (.invokevirtual 78, 3) := by decide +kernel
theorem d_Mod_link_20 : decode b_Mod_link 20 = .ok (.ifCond .eq 13, 3) := by decide +kernel
theorem d_Mod_link_23 : decode b_Mod_link 23 = .ok (.aload_n 0, 1) := by decide +kernel
theorem d_Mod_link_24 : decode b_Mod_link 24 = .ok (.getfield 28, 3) := by decide +kernel
theorem d_Mod_link_27 : decode b_Mod_link 27 = .ok (.iload_n 1, 1) := by decide +kernel
theorem d_Mod_link_28 : decode b_Mod_link 28 = .ok (.iaload, 1) := by decide +kernel
theorem d_Mod_link_29 : decode b_Mod_link 29 = .ok (.iconst 5, 1) := by decide +kernel
theorem d_Mod_link_30 : decode b_Mod_link 30 = .ok (.if_icmp .lt 5, 3) := by decide +kernel
theorem d_Mod_link_33 : decode b_Mod_link 33 = .ok (.iconst 0, 1) := by decide +kernel
theorem d_Mod_link_34 : decode b_Mod_link 34 = .ok (.ireturn, 1) := by decide +kernel
theorem d_Mod_link_35 : decode b_Mod_link 35 = .ok (.aload_n 0, 1) := by decide +kernel
theorem d_Mod_link_36 : decode b_Mod_link 36 = .ok (.getfield 25, 3) := by decide +kernel
theorem d_Mod_link_39 : decode b_Mod_link 39 = .ok (.iconst 5, 1) := by decide +kernel
theorem d_Mod_link_40 : decode b_Mod_link 40 = .ok (.iload_n 1, 1) := by decide +kernel
theorem d_Mod_link_41 : decode b_Mod_link 41 = .ok (.imul, 1) := by decide +kernel
theorem d_Mod_link_42 : decode b_Mod_link 42 = .ok (.aload_n 0, 1) := by decide +kernel
theorem d_Mod_link_43 : decode b_Mod_link 43 = .ok (.getfield 28, 3) := by decide +kernel
theorem d_Mod_link_46 : decode b_Mod_link 46 = .ok (.iload_n 1, 1) := by decide +kernel
theorem d_Mod_link_47 : decode b_Mod_link 47 = .ok (.iaload, 1) := by decide +kernel
theorem d_Mod_link_48 : decode b_Mod_link 48 = .ok (.iadd, 1) := by decide +kernel
theorem d_Mod_link_49 : decode b_Mod_link 49 = .ok (.iload_n 2, 1) := by decide +kernel
theorem d_Mod_link_50 : decode b_Mod_link 50 = .ok (.iastore, 1) := by decide +kernel
theorem d_Mod_link_51 : decode b_Mod_link 51 = .ok (.aload_n 0, 1) := by decide +kernel
theorem d_Mod_link_52 : decode b_Mod_link 52 = .ok (.getfield 28, 3) := by decide +kernel
theorem d_Mod_link_55 : decode b_Mod_link 55 = .ok (.iload_n 1, 1) := by decide +kernel
theorem d_Mod_link_56 : decode b_Mod_link 56 = .ok (.aload_n 0, 1) := by decide +kernel
theorem d_Mod_link_57 : decode b_Mod_link 57 = .ok (.getfield 28, 3) := by decide +kernel
theorem d_Mod_link_60 : decode b_Mod_link 60 = .ok (.iload_n 1, 1) := by decide +kernel
theorem d_Mod_link_61 : decode b_Mod_link 61 = .ok (.iaload, 1) := by decide +kernel
theorem d_Mod_link_62 : decode b_Mod_link 62 = .ok (.iconst 1, 1) := by decide +kernel
theorem d_Mod_link_63 : decode b_Mod_link 63 = .ok (.iadd, 1) := by decide +kernel
theorem d_Mod_link_64 : decode b_Mod_link 64 = .ok (.iastore, 1) := by decide +kernel
theorem d_Mod_link_65 : decode b_Mod_link 65 = .ok (.iconst 1, 1) := by decide +kernel
theorem d_Mod_link_66 : decode b_Mod_link 66 = .ok (.ireturn, 1) := by decide +kernel
theorem d_Mod_move_0 : decode b_Mod_move 0 = .ok (.aload_n 0, 1) := by decide +kernel
theorem d_Mod_move_1 : decode b_Mod_move 1 = .ok (.getfield 73, 3) := by decide +kernel
theorem d_Mod_move_4 : decode b_Mod_move 4 = .ok (.ifCond .ne 19, 3) := by decide +kernel
theorem d_Mod_move_7 : decode b_Mod_move 7 = .ok (.aload_n 0, 1) := by decide +kernel
theorem d_Mod_move_8 : decode b_Mod_move 8 = .ok (.iload_n 1, 1) := by decide +kernel
theorem d_Mod_move_9 : decode b_Mod_move 9 = .ok (.invokevirtual 78, 3) := by decide +kernel
theorem d_Mod_move_12 : decode b_Mod_move 12 = .ok (.ifCond .eq 11, 3) := by decide +kernel
theorem d_Mod_move_15 : decode b_Mod_move 15 = .ok (.aload_n 0, 1) := by decide +kernel
theorem d_Mod_move_16 : decode b_Mod_move 16 = .ok (.iload_n 2, 1) := by decide +kernel
theorem d_Mod_move_17 : decode b_Mod_move 17 = .ok (.invokevirtual 78, 3) := by decide +kernel
theorem d_Mod_move_20 : decode b_Mod_move 20 = .ok (.ifCond .ne 5, 3) := by decide +kernel
theorem d_Mod_move_23 : decode b_Mod_move 23 = .ok (.iconst 0, 1) := by decide +kernel
theorem d_Mod_move_24 : decode b_Mod_move 24 = .ok (.ireturn, 1) := by decide +kernel
theorem d_Mod_move_25 : decode b_Mod_move 25 = .ok (.aload_n 0, 1) := by decide +kernel
theorem d_Mod_move_26 : decode b_Mod_move 26 = .ok (.getfield 16, 3) := by decide +kernel
theorem d_Mod_move_29 : decode b_Mod_move 29 = .ok (.iload_n 1, 1) := by decide +kernel
theorem d_Mod_move_30 : decode b_Mod_move 30 = .ok (.iload_n 2, 1) := by decide +kernel
theorem d_Mod_move_31 : decode b_Mod_move 31 = .ok (.iastore, 1) := by decide +kernel
theorem d_Mod_move_32 : decode b_Mod_move 32 = .ok (.iconst 1, 1) := by decide +kernel
theorem d_Mod_move_33 : decode b_Mod_move 33 = .ok (.ireturn, 1) := by decide +kernel
theorem d_Mod_drop_0 : decode b_Mod_drop 0 = .ok (.aload_n 0, 1) := by decide +kernel
theorem d_Mod_drop_1 : decode b_Mod_drop 1 = .ok (.getfield 73, 3) := by decide +kernel
theorem d_Mod_drop_4 : decode b_Mod_drop 4 = .ok (.ifCond .ne 11, 3) := by decide +kernel
theorem d_Mod_drop_7 : decode b_Mod_drop 7 = .ok (.aload_n 0, 1) := by decide +kernel
theorem d_Mod_drop_8 : decode b_Mod_drop 8 = .ok (.iload_n 1, 1) := by decide +kernel
theorem d_Mod_drop_9 : decode b_Mod_drop 9 = .ok (.invokevirtual 78, 3) := by decide +kernel
theorem d_Mod_drop_12 : decode b_Mod_drop 12 = .ok (.ifCond .ne 5, 3) := by decide +kernel
theorem d_Mod_drop_15 : decode b_Mod_drop 15 = .ok (.iconst 0, 1) := by decide +kernel
theorem d_Mod_drop_16 : decode b_Mod_drop 16 = .ok (.ireturn, 1) := by decide +kernel
theorem d_Mod_drop_17 : decode b_Mod_drop 17 = .ok (.aload_n 0, 1) := by decide +kernel
theorem d_Mod_drop_18 : decode b_Mod_drop 18 = .ok (.getfield 16, 3) := by decide +kernel
theorem d_Mod_drop_21 : decode b_Mod_drop 21 = .ok (.iload_n 1, 1) := by decide +kernel
theorem d_Mod_drop_22 : decode b_Mod_drop 22 = .ok (.bipush (-3), 2) := by decide +kernel
theorem d_Mod_drop_24 : decode b_Mod_drop 24 = .ok (.iastore, 1) := by decide +kernel
theorem d_Mod_drop_25 : decode b_Mod_drop 25 = .ok (.iconst 1, 1) := by decide +kernel
theorem d_Mod_drop_26 : decode b_Mod_drop 26 = .ok (.ireturn, 1) := by decide +kernel
theorem d_Mod_rule_0 : decode b_Mod_rule 0 = .ok (.aload_n 0, 1) := by decide +kernel
theorem d_Mod_rule_1 : decode b_Mod_rule 1 = .ok (.getfield 73, 3) := by decide +kernel
theorem d_Mod_rule_4 : decode b_Mod_rule 4 = .ok (.ifCond .ne 32, 3) := by decide +kernel
theorem d_Mod_rule_7 : decode b_Mod_rule 7 = .ok (.iload_n 1, 1) := by decide +kernel
theorem d_Mod_rule_8 : decode b_Mod_rule 8 = .ok (.ifCond .lt 28, 3) := by decide +kernel
theorem d_Mod_rule_11 : decode b_Mod_rule 11 = .ok (.iload_n 1, 1) := by decide +kernel
theorem d_Mod_rule_12 : decode b_Mod_rule 12 = .ok (.iconst 5, 1) := by decide +kernel
theorem d_Mod_rule_13 : decode b_Mod_rule 13 = .ok (.if_icmp .gt 23, 3) := by decide +kernel
theorem d_Mod_rule_16 : decode b_Mod_rule 16 = .ok (.iload_n 2, 1) := by decide +kernel
theorem d_Mod_rule_17 : decode b_Mod_rule 17 = .ok (.ifCond .lt 19, 3) := by decide +kernel
theorem d_Mod_rule_20 : decode b_Mod_rule 20 = .ok (.iload_n 2, 1) := by decide +kernel
theorem d_Mod_rule_21 : decode b_Mod_rule 21 = .ok (.ldc 77, 2) := by decide +kernel
theorem d_Mod_rule_23 : decode b_Mod_rule 23 = .ok (.if_icmp .gt 13, 3) := by decide +kernel
theorem d_Mod_rule_26 : decode b_Mod_rule 26 = .ok (.aload_n 0, 1) := by decide +kernel
theorem d_Mod_rule_27 : decode b_Mod_rule 27 = .ok (.getfield 38, 3) := by decide +kernel
theorem d_Mod_rule_30 : decode b_Mod_rule 30 = .ok (.iload_n 1, 1) := by decide +kernel
theorem d_Mod_rule_31 : decode b_Mod_rule 31 = .ok (.iaload, 1) := by decide +kernel
theorem d_Mod_rule_32 : decode b_Mod_rule 32 = .ok (.iconst 4, 1) := by decide +kernel
theorem d_Mod_rule_33 : decode b_Mod_rule 33 = .ok (.if_icmp .lt 5, 3) := by decide +kernel
theorem d_Mod_rule_36 : decode b_Mod_rule 36 = .ok (.iconst 0, 1) := by decide +kernel
theorem d_Mod_rule_37 : decode b_Mod_rule 37 = .ok (.ireturn, 1) := by decide +kernel
theorem d_Mod_rule_38 : decode b_Mod_rule 38 = .ok (.aload_n 0, 1) := by decide +kernel
theorem d_Mod_rule_39 : decode b_Mod_rule 39 = .ok (.getfield 31, 3) := by decide +kernel
theorem d_Mod_rule_42 : decode b_Mod_rule 42 = .ok (.iconst 4, 1) := by decide +kernel
theorem d_Mod_rule_43 : decode b_Mod_rule 43 = .ok (.iload_n 1, 1) := by decide +kernel
theorem d_Mod_rule_44 : decode b_Mod_rule 44 = .ok (.imul, 1) := by decide +kernel
theorem d_Mod_rule_45 : decode b_Mod_rule 45 = .ok (.aload_n 0, 1) := by decide +kernel
theorem d_Mod_rule_46 : decode b_Mod_rule 46 = .ok (.getfield 38, 3) := by decide +kernel
theorem d_Mod_rule_49 : decode b_Mod_rule 49 = .ok (.iload_n 1, 1) := by decide +kernel
theorem d_Mod_rule_50 : decode b_Mod_rule 50 = .ok (.iaload, 1) := by decide +kernel
theorem d_Mod_rule_51 : decode b_Mod_rule 51 = .ok (.iadd, 1) := by decide +kernel
theorem d_Mod_rule_52 : decode b_Mod_rule 52 = .ok (.iload_n 2, 1) := by decide +kernel
theorem d_Mod_rule_53 : decode b_Mod_rule 53 = .ok (.iastore, 1) := by decide +kernel
theorem d_Mod_rule_54 : decode b_Mod_rule 54 = .ok (.aload_n 0, 1) := by decide +kernel
theorem d_Mod_rule_55 : decode b_Mod_rule 55 = .ok (.getfield 34, 3) := by decide +kernel
theorem d_Mod_rule_58 : decode b_Mod_rule 58 = .ok (.iconst 4, 1) := by decide +kernel
theorem d_Mod_rule_59 : decode b_Mod_rule 59 = .ok (.iload_n 1, 1) := by decide +kernel
theorem d_Mod_rule_60 : decode b_Mod_rule 60 = .ok (.imul, 1) := by decide +kernel
theorem d_Mod_rule_61 : decode b_Mod_rule 61 = .ok (.aload_n 0, 1) := by decide +kernel
theorem d_Mod_rule_62 : decode b_Mod_rule 62 = .ok (.getfield 38, 3) := by decide +kernel
theorem d_Mod_rule_65 : decode b_Mod_rule 65 = .ok (.iload_n 1, 1) := by decide +kernel
theorem d_Mod_rule_66 : decode b_Mod_rule 66 = .ok (.iaload, 1) := by decide +kernel
theorem d_Mod_rule_67 : decode b_Mod_rule 67 = .ok (.iadd, 1) := by decide +kernel
theorem d_Mod_rule_68 : decode b_Mod_rule 68 = .ok (.iload_n 3, 1) := by decide +kernel
theorem d_Mod_rule_69 : decode b_Mod_rule 69 = .ok (.bastore, 1) := by decide +kernel
theorem d_Mod_rule_70 : decode b_Mod_rule 70 = .ok (.aload_n 0, 1) := by decide +kernel
theorem d_Mod_rule_71 : decode b_Mod_rule 71 = .ok (.getfield 38, 3) := by decide +kernel
theorem d_Mod_rule_74 : decode b_Mod_rule 74 = .ok (.iload_n 1, 1) := by decide +kernel
theorem d_Mod_rule_75 : decode b_Mod_rule 75 = .ok (.aload_n 0, 1) := by decide +kernel
theorem d_Mod_rule_76 : decode b_Mod_rule 76 = .ok (.getfield 38, 3) := by decide +kernel
theorem d_Mod_rule_79 : decode b_Mod_rule 79 = .ok (.iload_n 1, 1) := by decide +kernel
theorem d_Mod_rule_80 : decode b_Mod_rule 80 = .ok (.iaload, 1) := by decide +kernel
theorem d_Mod_rule_81 : decode b_Mod_rule 81 = .ok (.iconst 1, 1) := by decide +kernel
theorem d_Mod_rule_82 : decode b_Mod_rule 82 = .ok (.iadd, 1) := by decide +kernel
theorem d_Mod_rule_83 : decode b_Mod_rule 83 = .ok (.iastore, 1) := by decide +kernel
theorem d_Mod_rule_84 : decode b_Mod_rule 84 = .ok (.iconst 1, 1) := by decide +kernel
theorem d_Mod_rule_85 : decode b_Mod_rule 85 = .ok (.ireturn, 1) := by decide +kernel
theorem d_Mod_first_0 : decode b_Mod_first 0 = .ok (.aload_n 0, 1) := by decide +kernel
theorem d_Mod_first_1 : decode b_Mod_first 1 = .ok (.getfield 73, 3) := by decide +kernel
theorem d_Mod_first_4 : decode b_Mod_first 4 = .ok (.ifCond .ne 20, 3) := by decide +kernel
theorem d_Mod_first_7 : decode b_Mod_first 7 = .ok (.aload_n 0, 1) := by decide +kernel
theorem d_Mod_first_8 : decode b_Mod_first 8 = .ok (.iload_n 1, 1) := by decide +kernel
theorem d_Mod_first_9 : decode b_Mod_first 9 = .ok (.invokevirtual 78, 3) := by decide +kernel
theorem d_Mod_first_12 : decode b_Mod_first 12 = .ok (.ifCond .eq 12, 3) := by decide +kernel
theorem d_Mod_first_15 : decode b_Mod_first 15 = .ok (.aload_n 0, 1) := by decide +kernel
theorem d_Mod_first_16 : decode b_Mod_first 16 = .ok (.getfield 82, 3) := by decide +kernel
theorem d_Mod_first_19 : decode b_Mod_first 19 = .ok (.bipush 6, 2) := by decide +kernel
theorem d_Mod_first_21 : decode b_Mod_first 21 = .ok (.if_icmp .lt 5, 3) := by decide +kernel
theorem d_Mod_first_24 : decode b_Mod_first 24 = .ok (.iconst 0, 1) := by decide +kernel
theorem d_Mod_first_25 : decode b_Mod_first 25 = .ok (.ireturn, 1) := by decide +kernel
theorem d_Mod_first_26 : decode b_Mod_first 26 = .ok (.aload_n 0, 1) := by decide +kernel
theorem d_Mod_first_27 : decode b_Mod_first 27 = .ok (.getfield 41, 3) := by decide +kernel
theorem d_Mod_first_30 : decode b_Mod_first 30 = .ok (.aload_n 0, 1) := by decide +kernel
theorem d_Mod_first_31 : decode b_Mod_first 31 = .ok (.getfield 82, 3) := by decide +kernel
theorem d_Mod_first_34 : decode b_Mod_first 34 = .ok (.iload_n 1, 1) := by decide +kernel
theorem d_Mod_first_35 : decode b_Mod_first 35 = .ok (.iastore, 1) := by decide +kernel
theorem d_Mod_first_36 : decode b_Mod_first 36 = .ok (.aload_n 0, 1) := by decide +kernel
theorem d_Mod_first_37 : decode b_Mod_first 37 = .ok (.aload_n 0, 1) := by decide +kernel
theorem d_Mod_first_38 : decode b_Mod_first 38 = .ok (.getfield 82, 3) := by decide +kernel
theorem d_Mod_first_41 : decode b_Mod_first 41 = .ok (.iconst 1, 1) := by decide +kernel
theorem d_Mod_first_42 : decode b_Mod_first 42 = .ok (.iadd, 1) := by decide +kernel
theorem d_Mod_first_43 : decode b_Mod_first 43 = .ok (.putfield 82, 3) := by decide +kernel
theorem d_Mod_first_46 : decode b_Mod_first 46 = .ok (.iconst 1, 1) := by decide +kernel
theorem d_Mod_first_47 : decode b_Mod_first 47 = .ok (.ireturn, 1) := by decide +kernel
theorem d_Mod_taken_0 : decode b_Mod_taken 0 = .ok (.iconst 0, 1) := by decide +kernel
theorem d_Mod_taken_1 : decode b_Mod_taken 1 = .ok (.istore_n 3, 1) := by decide +kernel
theorem d_Mod_taken_2 : decode b_Mod_taken 2 = .ok (.iload_n 1, 1) := by decide +kernel
theorem d_Mod_taken_3 : decode b_Mod_taken 3 = .ok (.istore 4, 2) := by decide +kernel
theorem d_Mod_taken_5 : decode b_Mod_taken 5 = .ok (.iload 4, 2) := by decide +kernel
theorem d_Mod_taken_7 : decode b_Mod_taken 7 = .ok (.ifCond .le 17, 3) := by decide +kernel
theorem d_Mod_taken_10 : decode b_Mod_taken 10 = .ok (.iload_n 3, 1) := by decide +kernel
theorem d_Mod_taken_11 : decode b_Mod_taken 11 = .ok (.iconst 1, 1) := by decide +kernel
theorem d_Mod_taken_12 : decode b_Mod_taken 12 = .ok (.iadd, 1) := by decide +kernel
theorem d_Mod_taken_13 : decode b_Mod_taken 13 = .ok (.istore_n 3, 1) := by decide +kernel
theorem d_Mod_taken_14 : decode b_Mod_taken 14 = .ok (.iload 4, 2) := by decide +kernel
theorem d_Mod_taken_16 : decode b_Mod_taken 16 = .ok (.bipush 10, 2) := by decide +kernel
theorem d_Mod_taken_18 : decode b_Mod_taken 18 = .ok (.idiv, 1) := by decide +kernel
theorem d_Mod_taken_19 : decode b_Mod_taken 19 = .ok (.istore 4, 2) := by decide +kernel
theorem d_Mod_taken_21 : decode b_Mod_taken 21 = .ok (.goto (-16), 3) := by decide +kernel
theorem d_Mod_taken_24 : decode b_Mod_taken 24 = .ok (.iload_n 2, 1) := by decide +kernel
theorem d_Mod_taken_25 : decode b_Mod_taken 25 = .ok (.istore 4, 2) := by decide +kernel
theorem d_Mod_taken_27 : decode b_Mod_taken 27 = .ok (.iload 4, 2) := by decide +kernel
theorem d_Mod_taken_29 : decode b_Mod_taken 29 = .ok (.ifCond .le 21, 3) := by decide +kernel
theorem d_Mod_taken_32 : decode b_Mod_taken 32 = .ok (.iload 4, 2) := by decide +kernel
theorem d_Mod_taken_34 : decode b_Mod_taken 34 = .ok (.iload_n 1, 1) := by decide +kernel
theorem d_Mod_taken_35 : decode b_Mod_taken 35 = .ok (.if_icmp .ne 5, 3) := by decide +kernel
theorem d_Mod_taken_38 : decode b_Mod_taken 38 = .ok (.iload_n 3, 1) := by decide +kernel
theorem d_Mod_taken_39 : decode b_Mod_taken 39 = .ok (.ireturn, 1) := by decide +kernel
theorem d_Mod_taken_40 : decode b_Mod_taken 40 = .ok (.iload 4, 2) := by decide +kernel
theorem d_Mod_taken_42 : decode b_Mod_taken 42 = .ok (.bipush 10, 2) := by decide +kernel
theorem d_Mod_taken_44 : decode b_Mod_taken 44 = .ok (.idiv, 1) := by decide +kernel
theorem d_Mod_taken_45 : decode b_Mod_taken 45 = .ok (.istore 4, 2) := by decide +kernel
theorem d_Mod_taken_47 : decode b_Mod_taken 47 = .ok (.goto (-20), 3) := by decide +kernel
theorem d_Mod_taken_50 : decode b_Mod_taken 50 = .ok (.iload_n 1, 1) := by decide +kernel
theorem d_Mod_taken_51 : decode b_Mod_taken 51 = .ok (.ifCond .ne 7, 3) := by decide +kernel
theorem d_Mod_taken_54 : decode b_Mod_taken 54 = .ok (.iconst 0, 1) := by decide +kernel
theorem d_Mod_taken_55 : decode b_Mod_taken 55 = .ok (.goto 4, 3) := by decide +kernel
theorem d_Mod_taken_58 : decode b_Mod_taken 58 = .ok (.iconst (-1), 1) := by decide +kernel
theorem d_Mod_taken_59 : decode b_Mod_taken 59 = .ok (.ireturn, 1) := by decide +kernel
theorem d_Mod_allowed_0 : decode b_Mod_allowed 0 = .ok (.aload_n 0, 1) := by decide +kernel
theorem d_Mod_allowed_1 : decode b_Mod_allowed 1 = .ok (.iload_n 1, 1) := by decide +kernel
theorem d_Mod_allowed_2 : decode b_Mod_allowed 2 = .ok (.invokevirtual 78, 3) := by decide +kernel
theorem d_Mod_allowed_5 : decode b_Mod_allowed 5 = .ok (.ifCond .ne 5, 3) := by decide +kernel
theorem d_Mod_allowed_8 : decode b_Mod_allowed 8 = .ok (.iconst 0, 1) := by decide +kernel
theorem d_Mod_allowed_9 : decode b_Mod_allowed 9 = .ok (.ireturn, 1) := by decide +kernel
theorem d_Mod_allowed_10 : decode b_Mod_allowed 10 = .ok (.iconst (-1), 1) := by decide +kernel
theorem d_Mod_allowed_11 : decode b_Mod_allowed 11 = .ok (.istore_n 2, 1) := by decide +kernel
theorem d_Mod_allowed_12 : decode b_Mod_allowed 12 = .ok (.iconst 1, 1) := by decide +kernel
theorem d_Mod_allowed_13 : decode b_Mod_allowed 13 = .ok (.istore_n 3, 1) := by decide +kernel
theorem d_Mod_allowed_14 : decode b_Mod_allowed 14 = .ok (.iconst 0, 1) := by decide +kernel
theorem d_Mod_allowed_15 : decode b_Mod_allowed 15 = .ok (.istore 4, 2) := by decide +kernel
theorem d_Mod_allowed_17 : decode b_Mod_allowed 17 = .ok (.iload 4, 2) := by decide +kernel
theorem d_Mod_allowed_19 : decode b_Mod_allowed 19 = .ok (.aload_n 0, 1) := by decide +kernel
theorem d_Mod_allowed_20 : decode b_Mod_allowed 20 = .ok (.getfield 38, 3) := by decide +kernel
theorem d_Mod_allowed_23 : decode b_Mod_allowed 23 = .ok (.aload_n 0, 1) := by decide +kernel
theorem d_Mod_allowed_24 : decode b_Mod_allowed 24 = .ok (.getfield 7, 3) := by decide +kernel
theorem d_Mod_allowed_27 : decode b_Mod_allowed 27 = .ok (.iload_n 1, 1) := by decide +kernel
theorem d_Mod_allowed_28 : decode b_Mod_allowed 28 = .ok (.iaload, 1) := by decide +kernel
theorem d_Mod_allowed_29 : decode b_Mod_allowed 29 = .ok (.iaload, 1) := by decide +kernel
theorem d_Mod_allowed_30 : decode b_Mod_allowed 30 = .ok (.if_icmp .ge 92, 3) := by decide +kernel
theorem d_Mod_allowed_33 : decode b_Mod_allowed 33 = .ok (.iconst 4, 1) := by decide +kernel
theorem d_Mod_allowed_34 : decode b_Mod_allowed 34 = .ok (.aload_n 0, 1) := by decide +kernel
theorem d_Mod_allowed_35 : decode b_Mod_allowed 35 = .ok (.getfield 7, 3) := by decide +kernel
theorem d_Mod_allowed_38 : decode b_Mod_allowed 38 = .ok (.iload_n 1, 1) := by decide +kernel
theorem d_Mod_allowed_39 : decode b_Mod_allowed 39 = .ok (.iaload, 1) := by decide +kernel
theorem d_Mod_allowed_40 : decode b_Mod_allowed 40 = .ok (.imul, 1) := by decide +kernel
theorem d_Mod_allowed_41 : decode b_Mod_allowed 41 = .ok (.iload 4, 2) := by decide +kernel
theorem d_Mod_allowed_43 : decode b_Mod_allowed 43 = .ok (.iadd, 1) := by decide +kernel
theorem d_Mod_allowed_44 : decode b_Mod_allowed 44 = .ok (.istore 5, 2) := by decide +kernel
theorem d_Mod_allowed_46 : decode b_Mod_allowed 46 = .ok (.aload_n 0, 1) := by decide +kernel
theorem d_Mod_allowed_47 : decode b_Mod_allowed 47 = .ok (.aload_n 0, 1) := by decide +kernel
theorem d_Mod_allowed_48 : decode b_Mod_allowed 48 = .ok (.getfield 31, 3) := by decide +kernel
theorem d_Mod_allowed_51 : decode b_Mod_allowed 51 = .ok (.iload 5, 2) := by decide +kernel
theorem d_Mod_allowed_53 : decode b_Mod_allowed 53 = .ok (.iaload, 1) := by decide +kernel
theorem d_Mod_allowed_54 : decode b_Mod_allowed 54 = .ok (.aload_n 0, 1) := by decide +kernel
theorem d_Mod_allowed_55 : decode b_Mod_allowed 55 = .ok (.getfield 13, 3) := by decide +kernel
theorem d_Mod_allowed_58 : decode b_Mod_allowed 58 = .ok (.iload_n 1, 1) := by decide +kernel
theorem d_Mod_allowed_59 : decode b_Mod_allowed 59 = .ok (.iaload, 1) := by decide +kernel
theorem d_Mod_allowed_60 : decode b_Mod_allowed 60 = .ok (.invokevirtual 85, 3) := by decide +kernel
theorem d_Mod_allowed_63 : decode b_Mod_allowed 63 = .ok (.istore 6, 2) := by decide +kernel
theorem d_Mod_allowed_65 : decode b_Mod_allowed 65 = .ok (.iload 6, 2) := by decide +kernel
theorem d_Mod_allowed_67 : decode b_Mod_allowed 67 = .ok (.iload_n 2, 1) := by decide +kernel
theorem d_Mod_allowed_68 : decode b_Mod_allowed 68 = .ok (.if_icmp .le 17, 3) := by decide +kernel
theorem d_Mod_allowed_71 : decode b_Mod_allowed 71 = .ok (.iload 6, 2) := by decide +kernel
theorem d_Mod_allowed_73 : decode b_Mod_allowed 73 = .ok (.istore_n 2, 1) := by decide +kernel
theorem d_Mod_allowed_74 : decode b_Mod_allowed 74 = .ok (.aload_n 0, 1) := by decide +kernel
theorem d_Mod_allowed_75 : decode b_Mod_allowed 75 = .ok (.getfield 34, 3) := by decide +kernel
theorem d_Mod_allowed_78 : decode b_Mod_allowed 78 = .ok (.iload 5, 2) := by decide +kernel
theorem d_Mod_allowed_80 : decode b_Mod_allowed 80 = .ok (.baload, 1) := by decide +kernel
theorem d_Mod_allowed_81 : decode b_Mod_allowed 81 = .ok (.istore_n 3, 1) := by decide +kernel
theorem d_Mod_allowed_82 : decode b_Mod_allowed 82 = .ok (.goto 34, 3) := by decide +kernel
theorem d_Mod_allowed_85 : decode b_Mod_allowed 85 = .ok (.iload 6, 2) := by decide +kernel
theorem d_Mod_allowed_87 : decode b_Mod_allowed 87 = .ok (.iload_n 2, 1) := by decide +kernel
theorem d_Mod_allowed_88 : decode b_Mod_allowed 88 = .ok (.if_icmp .ne 28, 3) := by decide +kernel
theorem d_Mod_allowed_91 : decode b_Mod_allowed 91 = .ok (.iload 6, 2) := by decide +kernel
theorem d_Mod_allowed_93 : decode b_Mod_allowed 93 = .ok (.ifCond .lt 23, 3) := by decide +kernel
theorem d_Mod_allowed_96 : decode b_Mod_allowed 96 = .ok (.iload_n 3, 1) := by decide +kernel
theorem d_Mod_allowed_97 : decode b_Mod_allowed 97 = .ok (.ifCond .ne 13, 3) := by decide +kernel
theorem d_Mod_allowed_100 : decode b_Mod_allowed 100 = .ok (.aload_n 0, 1) := by decide +kernel
theorem d_Mod_allowed_101 : decode b_Mod_allowed 101 = .ok (.getfield 34, 3) := by decide +kernel
theorem d_Mod_allowed_104 : decode b_Mod_allowed 104 = .ok (.iload 5, 2) := by decide +kernel
theorem d_Mod_allowed_106 : decode b_Mod_allowed 106 = .ok (.baload, 1) := by decide +kernel
theorem d_Mod_allowed_107 : decode b_Mod_allowed 107 = .ok (.ifCond .eq 7, 3) := by decide +kernel
theorem d_Mod_allowed_110 : decode b_Mod_allowed 110 = .ok (.iconst 1, 1) := by decide +kernel
theorem d_Mod_allowed_111 : decode b_Mod_allowed 111 = .ok (.goto 4, 3) := by decide +kernel
theorem d_Mod_allowed_114 : decode b_Mod_allowed 114 = .ok (.iconst 0, 1) := by decide +kernel
theorem d_Mod_allowed_115 : decode b_Mod_allowed 115 = .ok (.istore_n 3, 1) := by decide +kernel
theorem d_Mod_allowed_116 : decode b_Mod_allowed 116 = .ok (.iinc 4 1, 3) := by decide +kernel
theorem d_Mod_allowed_119 : decode b_Mod_allowed 119 = .ok (.goto (-102), 3) := by decide +kernel
theorem d_Mod_allowed_122 : decode b_Mod_allowed 122 = .ok (.iload_n 3, 1) := by decide +kernel
theorem d_Mod_allowed_123 : decode b_Mod_allowed 123 = .ok (.ireturn, 1) := by decide +kernel
theorem d_Mod_isFetched_0 : decode b_Mod_isFetched 0 = .ok (.iconst 0, 1) := by decide +kernel
theorem d_Mod_isFetched_1 : decode b_Mod_isFetched 1 = .ok (.istore_n 2, 1) := by decide +kernel
theorem d_Mod_isFetched_2 : decode b_Mod_isFetched 2 = .ok (.iconst 0, 1) := by decide +kernel
theorem d_Mod_isFetched_3 : decode b_Mod_isFetched 3 = .ok (.istore_n 3, 1) := by decide +kernel
theorem d_Mod_isFetched_4 : decode b_Mod_isFetched 4 = .ok (.iload_n 3, 1) := by decide +kernel
theorem d_Mod_isFetched_5 : decode b_Mod_isFetched 5 = .ok (.aload_n 0, 1) := by decide +kernel
theorem d_Mod_isFetched_6 : decode b_Mod_isFetched 6 = .ok (.getfield 89, 3) := by decide +kernel
theorem d_Mod_isFetched_9 : decode b_Mod_isFetched 9 = .ok (.if_icmp .ge 29, 3) := by decide +kernel
theorem d_Mod_isFetched_12 : decode b_Mod_isFetched 12 = .ok (.iload_n 2, 1) := by decide +kernel
theorem d_Mod_isFetched_13 : decode b_Mod_isFetched 13 = .ok (.ifCond .ne 13, 3) := by decide +kernel
theorem d_Mod_isFetched_16 : decode b_Mod_isFetched 16 = .ok (.aload_n 0, 1) := by decide +kernel
theorem d_Mod_isFetched_17 : decode b_Mod_isFetched 17 = .ok (.getfield 50, 3) := by decide +kernel
theorem d_Mod_isFetched_20 : decode b_Mod_isFetched 20 = .ok (.iload_n 3, 1) := by decide +kernel
theorem d_Mod_isFetched_21 : decode b_Mod_isFetched 21 = .ok (.iaload, 1) := by decide +kernel
theorem d_Mod_isFetched_22 : decode b_Mod_isFetched 22 = .ok (.iload_n 1, 1) := by decide +kernel
theorem d_Mod_isFetched_23 : decode b_Mod_isFetched 23 = .ok (.if_icmp .ne 7, 3) := by decide +kernel
theorem d_Mod_isFetched_26 : decode b_Mod_isFetched 26 = .ok (.iconst 1, 1) := by decide +kernel
theorem d_Mod_isFetched_27 : decode b_Mod_isFetched 27 = .ok (.goto 4, 3) := by decide +kernel
theorem d_Mod_isFetched_30 : decode b_Mod_isFetched 30 = .ok (.iconst 0, 1) := by decide +kernel
theorem d_Mod_isFetched_31 : decode b_Mod_isFetched 31 = .ok (.istore_n 2, 1) := by decide +kernel
theorem d_Mod_isFetched_32 : decode b_Mod_isFetched 32 = .ok (.iinc 3 1, 3) := by decide +kernel
theorem d_Mod_isFetched_35 : decode b_Mod_isFetched 35 = .ok (.goto (-31), 3) := by decide +kernel
theorem d_Mod_isFetched_38 : decode b_Mod_isFetched 38 = .ok (.iload_n 2, 1) := by decide +kernel
theorem d_Mod_isFetched_39 : decode b_Mod_isFetched 39 = .ok (.ireturn, 1) := by decide +kernel
end
section
/-! Decoded instructions of Mod. -/
theorem d_Mod_fetch_0 : decode b_Mod_fetch 0 = .ok (.aload_n 0, 1) := by decide +kernel
theorem d_Mod_fetch_1 : decode b_Mod_fetch 1 = .ok (.iload_n 1, 1) := by decide +kernel
theorem d_Mod_fetch_2 : decode b_Mod_fetch 2 = .ok (.invokevirtual 92, 3) := by decide +kernel
theorem d_Mod_fetch_5 : decode b_Mod_fetch 5 = .ok (.ifCond .eq 4, 3) := by decide +kernel
theorem d_Mod_fetch_8 : decode b_Mod_fetch 8 = .ok (.return_, 1) := by decide +kernel
theorem d_Mod_fetch_9 : decode b_Mod_fetch 9 = .ok (.aload_n 0, 1) := by decide +kernel
theorem d_Mod_fetch_10 : decode b_Mod_fetch 10 = .ok (.getfield 7, 3) := by decide +kernel
theorem d_Mod_fetch_13 : decode b_Mod_fetch 13 = .ok (.iload_n 1, 1) := by decide +kernel
theorem d_Mod_fetch_14 : decode b_Mod_fetch 14 = .ok (.iaload, 1) := by decide +kernel
theorem d_Mod_fetch_15 : decode b_Mod_fetch 15 = .ok (.istore_n 2, 1) := by decide +kernel
theorem d_Mod_fetch_16 : decode b_Mod_fetch 16 = .ok (.aload_n 0, 1) := by decide +kernel
theorem d_Mod_fetch_17 : decode b_Mod_fetch 17 = .ok (.getfield 95, 3) := by decide +kernel
theorem d_Mod_fetch_20 : decode b_Mod_fetch 20 = .ok (.aload_n 0, 1) := by decide +kernel
theorem d_Mod_fetch_21 : decode b_Mod_fetch 21 = .ok (.getfield 56, 3) := by decide +kernel
theorem d_Mod_fetch_24 : decode b_Mod_fetch 24 = .ok (.iload_n 2, 1) := by decide +kernel
theorem d_Mod_fetch_25 : decode b_Mod_fetch 25 = .ok (.iaload, 1) := by decide +kernel
theorem d_Mod_fetch_26 : decode b_Mod_fetch 26 = .ok (.if_icmp .le 10, 3) := by decide +kernel
theorem d_Mod_fetch_29 : decode b_Mod_fetch 29 = .ok (.aload_n 0, 1) := by decide +kernel
theorem d_Mod_fetch_30 : decode b_Mod_fetch 30 = .ok (.getfield 95, 3) := by decide +kernel
theorem d_Mod_fetch_33 : decode b_Mod_fetch 33 = .ok (.goto 9, 3) := by decide +kernel
theorem d_Mod_fetch_36 : decode b_Mod_fetch 36 = .ok (.aload_n 0, 1) := by decide +kernel
theorem d_Mod_fetch_37 : decode b_Mod_fetch 37 = .ok (.getfield 56, 3) := by decide +kernel
theorem d_Mod_fetch_40 : decode b_Mod_fetch 40 = .ok (.iload_n 2, 1) := by decide +kernel
theorem d_Mod_fetch_41 : decode b_Mod_fetch 41 = .ok (.iaload, 1) := by decide +kernel
theorem d_Mod_fetch_42 : decode b_Mod_fetch 42 = .ok (.istore_n 3, 1) := by decide +kernel
theorem d_Mod_fetch_43 : decode b_Mod_fetch 43 = .ok (.aload_n 0, 1) := by decide +kernel
theorem d_Mod_fetch_44 : decode b_Mod_fetch 44 = .ok (.getfield 56, 3) := by decide +kernel
theorem d_Mod_fetch_47 : decode b_Mod_fetch 47 = .ok (.iload_n 2, 1) := by decide +kernel
theorem d_Mod_fetch_48 : decode b_Mod_fetch 48 = .ok (.iload_n 3, 1) := by decide +kernel
theorem d_Mod_fetch_49 : decode b_Mod_fetch 49 = .ok (.aload_n 0, 1) := by decide +kernel
theorem d_Mod_fetch_50 : decode b_Mod_fetch 50 = .ok (.getfield 98, 3) := by decide +kernel
theorem d_Mod_fetch_53 : decode b_Mod_fetch 53 = .ok (.iadd, 1) := by decide +kernel
theorem d_Mod_fetch_54 : decode b_Mod_fetch 54 = .ok (.iastore, 1) := by decide +kernel
theorem d_Mod_fetch_55 : decode b_Mod_fetch 55 = .ok (.aload_n 0, 1) := by decide +kernel
theorem d_Mod_fetch_56 : decode b_Mod_fetch 56 = .ok (.iload_n 3, 1) := by decide +kernel
theorem d_Mod_fetch_57 : decode b_Mod_fetch 57 = .ok (.iconst 1, 1) := by decide +kernel
theorem d_Mod_fetch_58 : decode b_Mod_fetch 58 = .ok (.iadd, 1) := by decide +kernel
theorem d_Mod_fetch_59 : decode b_Mod_fetch 59 = .ok (.putfield 95, 3) := by decide +kernel
theorem d_Mod_fetch_62 : decode b_Mod_fetch 62 = .ok (.aload_n 0, 1) := by decide +kernel
theorem d_Mod_fetch_63 : decode b_Mod_fetch 63 = .ok (.getfield 50, 3) := by decide +kernel
theorem d_Mod_fetch_66 : decode b_Mod_fetch 66 = .ok (.aload_n 0, 1) := by decide +kernel
theorem d_Mod_fetch_67 : decode b_Mod_fetch 67 = .ok (.getfield 89, 3) := by decide +kernel
theorem d_Mod_fetch_70 : decode b_Mod_fetch 70 = .ok (.iload_n 1, 1) := by decide +kernel
theorem d_Mod_fetch_71 : decode b_Mod_fetch 71 = .ok (.iastore, 1) := by decide +kernel
theorem d_Mod_fetch_72 : decode b_Mod_fetch 72 = .ok (.aload_n 0, 1) := by decide +kernel
theorem d_Mod_fetch_73 : decode b_Mod_fetch 73 = .ok (.aload_n 0, 1) := by decide +kernel
theorem d_Mod_fetch_74 : decode b_Mod_fetch 74 = .ok (.getfield 89, 3) := by decide +kernel
theorem d_Mod_fetch_77 : decode b_Mod_fetch 77 = .ok (.iconst 1, 1) := by decide +kernel
theorem d_Mod_fetch_78 : decode b_Mod_fetch 78 = .ok (.iadd, 1) := by decide +kernel
theorem d_Mod_fetch_79 : decode b_Mod_fetch 79 = .ok (.putfield 89, 3) := by decide +kernel
theorem d_Mod_fetch_82 : decode b_Mod_fetch 82 = .ok (.aload_n 0, 1) := by decide +kernel
theorem d_Mod_fetch_83 : decode b_Mod_fetch 83 = .ok (.aload_n 0, 1) := by decide +kernel
theorem d_Mod_fetch_84 : decode b_Mod_fetch 84 = .ok (.getfield 101, 3) := by decide +kernel
theorem d_Mod_fetch_87 : decode b_Mod_fetch 87 = .ok (.iconst 1, 1) := by decide +kernel
theorem d_Mod_fetch_88 : decode b_Mod_fetch 88 = .ok (.iadd, 1) := by decide +kernel
theorem d_Mod_fetch_89 : decode b_Mod_fetch 89 = .ok (.putfield 101, 3) := by decide +kernel
theorem d_Mod_fetch_92 : decode b_Mod_fetch 92 = .ok (.return_, 1) := by decide +kernel
theorem d_Mod_chase_0 : decode b_Mod_chase 0 = .ok (.iload_n 1, 1) := by decide +kernel
theorem d_Mod_chase_1 : decode b_Mod_chase 1 = .ok (.istore_n 3, 1) := by decide +kernel
theorem d_Mod_chase_2 : decode b_Mod_chase 2 = .ok (.iconst 0, 1) := by decide +kernel
theorem d_Mod_chase_3 : decode b_Mod_chase 3 = .ok (.istore 4, 2) := by decide +kernel
theorem d_Mod_chase_5 : decode b_Mod_chase 5 = .ok (.iload 4, 2) := by decide +kernel
theorem d_Mod_chase_7 : decode b_Mod_chase 7 = .ok (.iconst 4, 1) := by decide +kernel
theorem d_Mod_chase_8 : decode b_Mod_chase 8 = .ok (.if_icmp .gt 70, 3) := by decide +kernel
theorem d_Mod_chase_11 : decode b_Mod_chase 11 = .ok (.aload_n 0, 1) := by decide +kernel
theorem d_Mod_chase_12 : decode b_Mod_chase 12 = .ok (.iload_n 3, 1) := by decide +kernel
theorem d_Mod_chase_13 : decode b_Mod_chase 13 = .ok (.invokevirtual 104, 3) := by decide +kernel
theorem d_Mod_chase_16 : decode b_Mod_chase 16 = .ok (.ifCond .ne 5, 3) := by decide +kernel
theorem d_Mod_chase_19 : decode b_Mod_chase 19 = .ok (.iconst (-1), 1) := by decide +kernel
theorem d_Mod_chase_20 : decode b_Mod_chase 20 = .ok (.ireturn, 1) := by decide +kernel
theorem d_Mod_chase_21 : decode b_Mod_chase 21 = .ok (.iload_n 2, 1) := by decide +kernel
theorem d_Mod_chase_22 : decode b_Mod_chase 22 = .ok (.ifCond .eq 8, 3) := by decide +kernel
theorem d_Mod_chase_25 : decode b_Mod_chase 25 = .ok (.aload_n 0, 1) := by decide +kernel
theorem d_Mod_chase_26 : decode b_Mod_chase 26 = .ok (.iload_n 3, 1) := by decide +kernel
theorem d_Mod_chase_27 : decode b_Mod_chase 27 = .ok (.invokevirtual 107, 3) := by decide +kernel
theorem d_Mod_chase_30 : decode b_Mod_chase 30 = .ok (.aload_n 0, 1) := by decide +kernel
theorem d_Mod_chase_31 : decode b_Mod_chase 31 = .ok (.getfield 16, 3) := by decide +kernel
theorem d_Mod_chase_34 : decode b_Mod_chase 34 = .ok (.iload_n 3, 1) := by decide +kernel
theorem d_Mod_chase_35 : decode b_Mod_chase 35 = .ok (.iaload, 1) := by decide +kernel
theorem d_Mod_chase_36 : decode b_Mod_chase 36 = .ok (.bipush (-2), 2) := by decide +kernel
theorem d_Mod_chase_38 : decode b_Mod_chase 38 = .ok (.if_icmp .ne 5, 3) := by decide +kernel
theorem d_Mod_chase_41 : decode b_Mod_chase 41 = .ok (.iload_n 3, 1) := by decide +kernel
theorem d_Mod_chase_42 : decode b_Mod_chase 42 = .ok (.ireturn, 1) := by decide +kernel
theorem d_Mod_chase_43 : decode b_Mod_chase 43 = .ok (.aload_n 0, 1) := by decide +kernel
theorem d_Mod_chase_44 : decode b_Mod_chase 44 = .ok (.getfield 16, 3) := by decide +kernel
theorem d_Mod_chase_47 : decode b_Mod_chase 47 = .ok (.iload_n 3, 1) := by decide +kernel
theorem d_Mod_chase_48 : decode b_Mod_chase 48 = .ok (.iaload, 1) := by decide +kernel
theorem d_Mod_chase_49 : decode b_Mod_chase 49 = .ok (.bipush (-3), 2) := by decide +kernel
theorem d_Mod_chase_51 : decode b_Mod_chase 51 = .ok (.if_icmp .eq 12, 3) := by decide +kernel
theorem d_Mod_chase_54 : decode b_Mod_chase 54 = .ok (.iload 4, 2) := by decide +kernel
theorem d_Mod_chase_56 : decode b_Mod_chase 56 = .ok (.aload_n 0, 1) := by decide +kernel
theorem d_Mod_chase_57 : decode b_Mod_chase 57 = .ok (.getfield 111, 3) := by decide +kernel
theorem d_Mod_chase_60 : decode b_Mod_chase 60 = .ok (.if_icmp .lt 5, 3) := by decide +kernel
theorem d_Mod_chase_63 : decode b_Mod_chase 63 = .ok (.iconst (-1), 1) := by decide +kernel
theorem d_Mod_chase_64 : decode b_Mod_chase 64 = .ok (.ireturn, 1) := by decide +kernel
theorem d_Mod_chase_65 : decode b_Mod_chase 65 = .ok (.aload_n 0, 1) := by decide +kernel
theorem d_Mod_chase_66 : decode b_Mod_chase 66 = .ok (.getfield 16, 3) := by decide +kernel
theorem d_Mod_chase_69 : decode b_Mod_chase 69 = .ok (.iload_n 3, 1) := by decide +kernel
theorem d_Mod_chase_70 : decode b_Mod_chase 70 = .ok (.iaload, 1) := by decide +kernel
theorem d_Mod_chase_71 : decode b_Mod_chase 71 = .ok (.istore_n 3, 1) := by decide +kernel
theorem d_Mod_chase_72 : decode b_Mod_chase 72 = .ok (.iinc 4 1, 3) := by decide +kernel
theorem d_Mod_chase_75 : decode b_Mod_chase 75 = .ok (.goto (-70), 3) := by decide +kernel
theorem d_Mod_chase_78 : decode b_Mod_chase 78 = .ok (.iconst (-1), 1) := by decide +kernel
theorem d_Mod_chase_79 : decode b_Mod_chase 79 = .ok (.ireturn, 1) := by decide +kernel
theorem d_Mod_placeInCorpus_0 : decode b_Mod_placeInCorpus 0 = .ok (.iconst (-1), 1) := by decide +kernel
theorem d_Mod_placeInCorpus_1 : decode b_Mod_placeInCorpus 1 = .ok (.istore_n 2, 1) := by decide +kernel
theorem d_Mod_placeInCorpus_2 : decode b_Mod_placeInCorpus 2 = .ok (.iconst 0, 1) := by decide +kernel
theorem d_Mod_placeInCorpus_3 : decode b_Mod_placeInCorpus 3 = .ok (.istore_n 3, 1) := by decide +kernel
theorem d_Mod_placeInCorpus_4 : decode b_Mod_placeInCorpus 4 = .ok (.iload_n 3, 1) := by decide +kernel
theorem d_Mod_placeInCorpus_5 : decode b_Mod_placeInCorpus 5 = .ok (.aload_n 0, 1) := by decide +kernel
theorem d_Mod_placeInCorpus_6 : decode b_Mod_placeInCorpus 6 = .ok (.getfield 114, 3) := by decide +kernel
theorem d_Mod_placeInCorpus_9 : decode b_Mod_placeInCorpus 9 = .ok (.if_icmp .ge 25, 3) := by decide +kernel
theorem d_Mod_placeInCorpus_12 : decode b_Mod_placeInCorpus 12 = .ok (.aload_n 0, 1) := by decide +kernel
theorem d_Mod_placeInCorpus_13 : decode b_Mod_placeInCorpus 13 = .ok (.getfield 53, 3) := by decide +kernel
theorem d_Mod_placeInCorpus_16 : decode b_Mod_placeInCorpus 16 = .ok (.iload_n 3, 1) := by decide +kernel
theorem d_Mod_placeInCorpus_17 : decode b_Mod_placeInCorpus 17 = .ok (.iaload, 1) := by decide +kernel
theorem d_Mod_placeInCorpus_18 : decode b_Mod_placeInCorpus 18 = .ok (.iload_n 1, 1) := by decide +kernel
theorem d_Mod_placeInCorpus_19 : decode b_Mod_placeInCorpus 19 = .ok (.if_icmp .ne 7, 3) := by decide +kernel
theorem d_Mod_placeInCorpus_22 : decode b_Mod_placeInCorpus 22 = .ok (.iload_n 3, 1) := by decide +kernel
theorem d_Mod_placeInCorpus_23 : decode b_Mod_placeInCorpus 23 = .ok (.goto 4, 3) := by decide +kernel
theorem d_Mod_placeInCorpus_26 : decode b_Mod_placeInCorpus 26 = .ok (.iload_n 2, 1) := by decide +kernel
theorem d_Mod_placeInCorpus_27 : decode b_Mod_placeInCorpus 27 = .ok (.istore_n 2, 1) := by decide +kernel
theorem d_Mod_placeInCorpus_28 : decode b_Mod_placeInCorpus 28 = .ok (.iinc 3 1, 3) := by decide +kernel
theorem d_Mod_placeInCorpus_31 : decode b_Mod_placeInCorpus 31 = .ok (.goto (-27), 3) := by decide +kernel
theorem d_Mod_placeInCorpus_34 : decode b_Mod_placeInCorpus 34 = .ok (.iload_n 2, 1) := by decide +kernel
theorem d_Mod_placeInCorpus_35 : decode b_Mod_placeInCorpus 35 = .ok (.ireturn, 1) := by decide +kernel
theorem d_Mod_queue_0 : decode b_Mod_queue 0 = .ok (.iconst 0, 1) := by decide +kernel
theorem d_Mod_queue_1 : decode b_Mod_queue 1 = .ok (.istore_n 3, 1) := by decide +kernel
theorem d_Mod_queue_2 : decode b_Mod_queue 2 = .ok (.iload_n 3, 1) := by decide +kernel
theorem d_Mod_queue_3 : decode b_Mod_queue 3 = .ok (.aload_n 0, 1) := by decide +kernel
theorem d_Mod_queue_4 : decode b_Mod_queue 4 = .ok (.getfield 117, 3) := by decide +kernel
theorem d_Mod_queue_7 : decode b_Mod_queue 7 = .ok (.if_icmp .ge 20, 3) := by decide +kernel
theorem d_Mod_queue_10 : decode b_Mod_queue 10 = .ok (.aload_n 0, 1) := by decide +kernel
theorem d_Mod_queue_11 : decode b_Mod_queue 11 = .ok (.getfield 44, 3) := by decide +kernel
theorem d_Mod_queue_14 : decode b_Mod_queue 14 = .ok (.iload_n 3, 1) := by decide +kernel
theorem d_Mod_queue_15 : decode b_Mod_queue 15 = .ok (.iaload, 1) := by decide +kernel
theorem d_Mod_queue_16 : decode b_Mod_queue 16 = .ok (.iload_n 1, 1) := by decide +kernel
theorem d_Mod_queue_17 : decode b_Mod_queue 17 = .ok (.if_icmp .ne 4, 3) := by decide +kernel
theorem d_Mod_queue_20 : decode b_Mod_queue 20 = .ok (.return_, 1) := by decide +kernel
theorem d_Mod_queue_21 : decode b_Mod_queue 21 = .ok (.iinc 3 1, 3) := by decide +kernel
theorem d_Mod_queue_24 : decode b_Mod_queue 24 = .ok (.goto (-22), 3) := by decide +kernel
theorem d_Mod_queue_27 : decode b_Mod_queue 27 = .ok (.aload_n 0, 1) := by decide +kernel
theorem d_Mod_queue_28 : decode b_Mod_queue 28 = .ok (.getfield 44, 3) := by decide +kernel
theorem d_Mod_queue_31 : decode b_Mod_queue 31 = .ok (.aload_n 0, 1) := by decide +kernel
theorem d_Mod_queue_32 : decode b_Mod_queue 32 = .ok (.getfield 117, 3) := by decide +kernel
theorem d_Mod_queue_35 : decode b_Mod_queue 35 = .ok (.iload_n 1, 1) := by decide +kernel
theorem d_Mod_queue_36 : decode b_Mod_queue 36 = .ok (.iastore, 1) := by decide +kernel
theorem d_Mod_queue_37 : decode b_Mod_queue 37 = .ok (.aload_n 0, 1) := by decide +kernel
theorem d_Mod_queue_38 : decode b_Mod_queue 38 = .ok (.getfield 47, 3) := by decide +kernel
theorem d_Mod_queue_41 : decode b_Mod_queue 41 = .ok (.aload_n 0, 1) := by decide +kernel
theorem d_Mod_queue_42 : decode b_Mod_queue 42 = .ok (.getfield 117, 3) := by decide +kernel
theorem d_Mod_queue_45 : decode b_Mod_queue 45 = .ok (.iload_n 2, 1) := by decide +kernel
theorem d_Mod_queue_46 : decode b_Mod_queue 46 = .ok (.iastore, 1) := by decide +kernel
theorem d_Mod_queue_47 : decode b_Mod_queue 47 = .ok (.aload_n 0, 1) := by decide +kernel
theorem d_Mod_queue_48 : decode b_Mod_queue 48 = .ok (.aload_n 0, 1) := by decide +kernel
theorem d_Mod_queue_49 : decode b_Mod_queue 49 = .ok (.getfield 117, 3) := by decide +kernel
theorem d_Mod_queue_52 : decode b_Mod_queue 52 = .ok (.iconst 1, 1) := by decide +kernel
theorem d_Mod_queue_53 : decode b_Mod_queue 53 = .ok (.iadd, 1) := by decide +kernel
theorem d_Mod_queue_54 : decode b_Mod_queue 54 = .ok (.putfield 117, 3) := by decide +kernel
theorem d_Mod_queue_57 : decode b_Mod_queue 57 = .ok (.return_, 1) := by decide +kernel
theorem d_Mod_handle_0 : decode b_Mod_handle 0 = .ok (.aload_n 0, 1) := by decide +kernel
theorem d_Mod_handle_1 : decode b_Mod_handle 1 = .ok (.getfield 44, 3) := by decide +kernel
theorem d_Mod_handle_4 : decode b_Mod_handle 4 = .ok (.aload_n 0, 1) := by decide +kernel
theorem d_Mod_handle_5 : decode b_Mod_handle 5 = .ok (.getfield 120, 3) := by decide +kernel
theorem d_Mod_handle_8 : decode b_Mod_handle 8 = .ok (.iaload, 1) := by decide +kernel
theorem d_Mod_handle_9 : decode b_Mod_handle 9 = .ok (.istore_n 1, 1) := by decide +kernel
theorem d_Mod_handle_10 : decode b_Mod_handle 10 = .ok (.aload_n 0, 1) := by decide +kernel
theorem d_Mod_handle_11 : decode b_Mod_handle 11 = .ok (.getfield 47, 3) := by decide +kernel
theorem d_Mod_handle_14 : decode b_Mod_handle 14 = .ok (.aload_n 0, 1) := by decide +kernel
theorem d_Mod_handle_15 : decode b_Mod_handle 15 = .ok (.getfield 120, 3) := by decide +kernel
theorem d_Mod_handle_18 : decode b_Mod_handle 18 = .ok (.iaload, 1) := by decide +kernel
theorem d_Mod_handle_19 : decode b_Mod_handle 19 = .ok (.istore_n 2, 1) := by decide +kernel
theorem d_Mod_handle_20 : decode b_Mod_handle 20 = .ok (.aload_n 0, 1) := by decide +kernel
theorem d_Mod_handle_21 : decode b_Mod_handle 21 = .ok (.aload_n 0, 1) := by decide +kernel
theorem d_Mod_handle_22 : decode b_Mod_handle 22 = .ok (.getfield 120, 3) := by decide +kernel
theorem d_Mod_handle_25 : decode b_Mod_handle 25 = .ok (.iconst 1, 1) := by decide +kernel
theorem d_Mod_handle_26 : decode b_Mod_handle 26 = .ok (.iadd, 1) := by decide +kernel
theorem d_Mod_handle_27 : decode b_Mod_handle 27 = .ok (.putfield 120, 3) := by decide +kernel
theorem d_Mod_handle_30 : decode b_Mod_handle 30 = .ok (.aload_n 0, 1) := by decide +kernel
theorem d_Mod_handle_31 : decode b_Mod_handle 31 = .ok (.iload_n 1, 1) := by decide +kernel
theorem d_Mod_handle_32 : decode b_Mod_handle 32 = .ok (.iconst 1, 1) := by decide +kernel
theorem d_Mod_handle_33 : decode b_Mod_handle 33 = .ok (.invokevirtual 123, 3) := by decide +kernel
theorem d_Mod_handle_36 : decode b_Mod_handle 36 = .ok (.istore_n 3, 1) := by decide +kernel
theorem d_Mod_handle_37 : decode b_Mod_handle 37 = .ok (.iload_n 3, 1) := by decide +kernel
theorem d_Mod_handle_38 : decode b_Mod_handle 38 = .ok (.ifCond .lt 77, 3) := by decide +kernel
theorem d_Mod_handle_41 : decode b_Mod_handle 41 = .ok (.aload_n 0, 1) := by decide +kernel
theorem d_Mod_handle_42 : decode b_Mod_handle 42 = .ok (.iload_n 3, 1) := by decide +kernel
theorem d_Mod_handle_43 : decode b_Mod_handle 43 = .ok (.invokevirtual 127, 3) := by decide +kernel
theorem d_Mod_handle_46 : decode b_Mod_handle 46 = .ok (.ifCond .ge 69, 3) := by decide +kernel
theorem d_Mod_handle_49 : decode b_Mod_handle 49 = .ok (.aload_n 0, 1) := by decide +kernel
theorem d_Mod_handle_50 : decode b_Mod_handle 50 = .ok (.getfield 53, 3) := by decide +kernel
theorem d_Mod_handle_53 : decode b_Mod_handle 53 = .ok (.aload_n 0, 1) := by decide +kernel
theorem d_Mod_handle_54 : decode b_Mod_handle 54 = .ok (.getfield 114, 3) := by decide +kernel
theorem d_Mod_handle_57 : decode b_Mod_handle 57 = .ok (.iload_n 3, 1) := by decide +kernel
theorem d_Mod_handle_58 : decode b_Mod_handle 58 = .ok (.iastore, 1) := by decide +kernel
theorem d_Mod_handle_59 : decode b_Mod_handle 59 = .ok (.aload_n 0, 1) := by decide +kernel
theorem d_Mod_handle_60 : decode b_Mod_handle 60 = .ok (.aload_n 0, 1) := by decide +kernel
theorem d_Mod_handle_61 : decode b_Mod_handle 61 = .ok (.getfield 114, 3) := by decide +kernel
theorem d_Mod_handle_64 : decode b_Mod_handle 64 = .ok (.iconst 1, 1) := by decide +kernel
theorem d_Mod_handle_65 : decode b_Mod_handle 65 = .ok (.iadd, 1) := by decide +kernel
theorem d_Mod_handle_66 : decode b_Mod_handle 66 = .ok (.putfield 114, 3) := by decide +kernel
theorem d_Mod_handle_69 : decode b_Mod_handle 69 = .ok (.iconst 0, 1) := by decide +kernel
theorem d_Mod_handle_70 : decode b_Mod_handle 70 = .ok (.istore 4, 2) := by decide +kernel
theorem d_Mod_handle_72 : decode b_Mod_handle 72 = .ok (.iload 4, 2) := by decide +kernel
theorem d_Mod_handle_74 : decode b_Mod_handle 74 = .ok (.aload_n 0, 1) := by decide +kernel
theorem d_Mod_handle_75 : decode b_Mod_handle 75 = .ok (.getfield 28, 3) := by decide +kernel
theorem d_Mod_handle_78 : decode b_Mod_handle 78 = .ok (.iload_n 3, 1) := by decide +kernel
theorem d_Mod_handle_79 : decode b_Mod_handle 79 = .ok (.iaload, 1) := by decide +kernel
theorem d_Mod_handle_80 : decode b_Mod_handle 80 = .ok (.if_icmp .ge 35, 3) := by decide +kernel
theorem d_Mod_handle_83 : decode b_Mod_handle 83 = .ok (.iload_n 2, 1) := by decide +kernel
theorem d_Mod_handle_84 : decode b_Mod_handle 84 = .ok (.aload_n 0, 1) := by decide +kernel
theorem d_Mod_handle_85 : decode b_Mod_handle 85 = .ok (.getfield 131, 3) := by decide +kernel
theorem d_Mod_handle_88 : decode b_Mod_handle 88 = .ok (.if_icmp .ge 27, 3) := by decide +kernel
theorem d_Mod_handle_91 : decode b_Mod_handle 91 = .ok (.aload_n 0, 1) := by decide +kernel
theorem d_Mod_handle_92 : decode b_Mod_handle 92 = .ok (.aload_n 0, 1) := by decide +kernel
theorem d_Mod_handle_93 : decode b_Mod_handle 93 = .ok (.getfield 25, 3) := by decide +kernel
theorem d_Mod_handle_96 : decode b_Mod_handle 96 = .ok (.iconst 5, 1) := by decide +kernel
theorem d_Mod_handle_97 : decode b_Mod_handle 97 = .ok (.iload_n 3, 1) := by decide +kernel
theorem d_Mod_handle_98 : decode b_Mod_handle 98 = .ok (.imul, 1) := by decide +kernel
theorem d_Mod_handle_99 : decode b_Mod_handle 99 = .ok (.iload 4, 2) := by decide +kernel
theorem d_Mod_handle_101 : decode b_Mod_handle 101 = .ok (.iadd, 1) := by decide +kernel
theorem d_Mod_handle_102 : decode b_Mod_handle 102 = .ok (.iaload, 1) := by decide +kernel
theorem d_Mod_handle_103 : decode b_Mod_handle 103 = .ok (.iload_n 2, 1) := by decide +kernel
theorem d_Mod_handle_104 : decode b_Mod_handle 104 = .ok (.iconst 1, 1) := by decide +kernel
theorem d_Mod_handle_105 : decode b_Mod_handle 105 = .ok (.iadd, 1) := by decide +kernel
theorem d_Mod_handle_106 : decode b_Mod_handle 106 = .ok (.invokevirtual 134, 3) := by decide +kernel
theorem d_Mod_handle_109 : decode b_Mod_handle 109 = .ok (.iinc 4 1, 3) := by decide +kernel
theorem d_Mod_handle_112 : decode b_Mod_handle 112 = .ok (.goto (-40), 3) := by decide +kernel
theorem d_Mod_handle_115 : decode b_Mod_handle 115 = .ok (.aload_n 0, 1) := by decide +kernel
theorem d_Mod_handle_116 : decode b_Mod_handle 116 = .ok (.aload_n 0, 1) := by decide +kernel
theorem d_Mod_handle_117 : decode b_Mod_handle 117 = .ok (.getfield 138, 3) := by decide +kernel
theorem d_Mod_handle_120 : decode b_Mod_handle 120 = .ok (.iconst 1, 1) := by decide +kernel
theorem d_Mod_handle_121 : decode b_Mod_handle 121 = .ok (.iadd, 1) := by decide +kernel
theorem d_Mod_handle_122 : decode b_Mod_handle 122 = .ok (.putfield 138, 3) := by decide +kernel
theorem d_Mod_handle_125 : decode b_Mod_handle 125 = .ok (.aload_n 0, 1) := by decide +kernel
theorem d_Mod_handle_126 : decode b_Mod_handle 126 = .ok (.getfield 138, 3) := by decide +kernel
theorem d_Mod_handle_129 : decode b_Mod_handle 129 = .ok (.aload_n 0, 1) := by decide +kernel
theorem d_Mod_handle_130 : decode b_Mod_handle 130 = .ok (.getfield 141, 3) := by decide +kernel
theorem d_Mod_handle_133 : decode b_Mod_handle 133 = .ok (.if_icmp .ne 7, 3) := by decide +kernel
theorem d_Mod_handle_136 : decode b_Mod_handle 136 = .ok (.aload_n 0, 1) := by decide +kernel
theorem d_Mod_handle_137 : decode b_Mod_handle 137 = .ok (.invokevirtual 144, 3) := by decide +kernel
theorem d_Mod_handle_140 : decode b_Mod_handle 140 = .ok (.return_, 1) := by decide +kernel
theorem d_Mod_mark_0 : decode b_Mod_mark 0 = .ok (.aload_n 0, 1) := by decide +kernel
theorem d_Mod_mark_1 : decode b_Mod_mark 1 = .ok (.aload_n 0, 1) := by decide +kernel
theorem d_Mod_mark_2 : decode b_Mod_mark 2 = .ok (.getfield 120, 3) := by decide +kernel
theorem d_Mod_mark_5 : decode b_Mod_mark 5 = .ok (.putfield 147, 3) := by decide +kernel
theorem d_Mod_mark_8 : decode b_Mod_mark 8 = .ok (.aload_n 0, 1) := by decide +kernel
theorem d_Mod_mark_9 : decode b_Mod_mark 9 = .ok (.aload_n 0, 1) := by decide +kernel
theorem d_Mod_mark_10 : decode b_Mod_mark 10 = .ok (.getfield 117, 3) := by decide +kernel
theorem d_Mod_mark_13 : decode b_Mod_mark 13 = .ok (.putfield 150, 3) := by decide +kernel
theorem d_Mod_mark_16 : decode b_Mod_mark 16 = .ok (.aload_n 0, 1) := by decide +kernel
theorem d_Mod_mark_17 : decode b_Mod_mark 17 = .ok (.aload_n 0, 1) := by decide +kernel
theorem d_Mod_mark_18 : decode b_Mod_mark 18 = .ok (.getfield 89, 3) := by decide +kernel
theorem d_Mod_mark_21 : decode b_Mod_mark 21 = .ok (.putfield 153, 3) := by decide +kernel
theorem d_Mod_mark_24 : decode b_Mod_mark 24 = .ok (.aload_n 0, 1) := by decide +kernel
theorem d_Mod_mark_25 : decode b_Mod_mark 25 = .ok (.aload_n 0, 1) := by decide +kernel
theorem d_Mod_mark_26 : decode b_Mod_mark 26 = .ok (.getfield 114, 3) := by decide +kernel
theorem d_Mod_mark_29 : decode b_Mod_mark 29 = .ok (.putfield 156, 3) := by decide +kernel
theorem d_Mod_mark_32 : decode b_Mod_mark 32 = .ok (.aload_n 0, 1) := by decide +kernel
theorem d_Mod_mark_33 : decode b_Mod_mark 33 = .ok (.iconst 0, 1) := by decide +kernel
theorem d_Mod_mark_34 : decode b_Mod_mark 34 = .ok (.putfield 138, 3) := by decide +kernel
theorem d_Mod_mark_37 : decode b_Mod_mark 37 = .ok (.return_, 1) := by decide +kernel
theorem d_Mod_begin_0 : decode b_Mod_begin 0 = .ok (.aload_n 0, 1) := by decide +kernel
theorem d_Mod_begin_1 : decode b_Mod_begin 1 = .ok (.getfield 73, 3) := by decide +kernel
theorem d_Mod_begin_4 : decode b_Mod_begin 4 = .ok (.ifCond .ne 52, 3) := by decide +kernel
theorem d_Mod_begin_7 : decode b_Mod_begin 7 = .ok (.iload_n 1, 1) := by decide +kernel
theorem d_Mod_begin_8 : decode b_Mod_begin 8 = .ok (.ifCond .lt 48, 3) := by decide +kernel
theorem d_Mod_begin_11 : decode b_Mod_begin 11 = .ok (.iload_n 1, 1) := by decide +kernel
theorem d_Mod_begin_12 : decode b_Mod_begin 12 = .ok (.bipush 6, 2) := by decide +kernel
theorem d_Mod_begin_14 : decode b_Mod_begin 14 = .ok (.if_icmp .gt 42, 3) := by decide +kernel
theorem d_Mod_begin_17 : decode b_Mod_begin 17 = .ok (.iload_n 2, 1) := by decide +kernel
theorem d_Mod_begin_18 : decode b_Mod_begin 18 = .ok (.ifCond .lt 38, 3) := by decide +kernel
theorem d_Mod_begin_21 : decode b_Mod_begin 21 = .ok (.iload_n 2, 1) := by decide +kernel
theorem d_Mod_begin_22 : decode b_Mod_begin 22 = .ok (.iconst 4, 1) := by decide +kernel
theorem d_Mod_begin_23 : decode b_Mod_begin 23 = .ok (.if_icmp .gt 33, 3) := by decide +kernel
theorem d_Mod_begin_26 : decode b_Mod_begin 26 = .ok (.iload_n 3, 1) := by decide +kernel
theorem d_Mod_begin_27 : decode b_Mod_begin 27 = .ok (.ifCond .lt 29, 3) := by decide +kernel
theorem d_Mod_begin_30 : decode b_Mod_begin 30 = .ok (.iload_n 3, 1) := by decide +kernel
theorem d_Mod_begin_31 : decode b_Mod_begin 31 = .ok (.bipush 9, 2) := by decide +kernel
theorem d_Mod_begin_33 : decode b_Mod_begin 33 = .ok (.if_icmp .gt 23, 3) := by decide +kernel
theorem d_Mod_begin_36 : decode b_Mod_begin 36 = .ok (.iload 4, 2) := by decide +kernel
theorem d_Mod_begin_38 : decode b_Mod_begin 38 = .ok (.iconst 1, 1) := by decide +kernel
theorem d_Mod_begin_39 : decode b_Mod_begin 39 = .ok (.if_icmp .lt 17, 3) := by decide +kernel
theorem d_Mod_begin_42 : decode b_Mod_begin 42 = .ok (.iload 4, 2) := by decide +kernel
theorem d_Mod_begin_44 : decode b_Mod_begin 44 = .ok (.bipush 8, 2) := by decide +kernel
theorem d_Mod_begin_46 : decode b_Mod_begin 46 = .ok (.if_icmp .gt 10, 3) := by decide +kernel
theorem d_Mod_begin_49 : decode b_Mod_begin 49 = .ok (.aload_n 0, 1) := by decide +kernel
theorem d_Mod_begin_50 : decode b_Mod_begin 50 = .ok (.getfield 82, 3) := by decide +kernel
theorem d_Mod_begin_53 : decode b_Mod_begin 53 = .ok (.ifCond .ne 5, 3) := by decide +kernel
theorem d_Mod_begin_56 : decode b_Mod_begin 56 = .ok (.iconst 0, 1) := by decide +kernel
theorem d_Mod_begin_57 : decode b_Mod_begin 57 = .ok (.ireturn, 1) := by decide +kernel
theorem d_Mod_begin_58 : decode b_Mod_begin 58 = .ok (.aload_n 0, 1) := by decide +kernel
theorem d_Mod_begin_59 : decode b_Mod_begin 59 = .ok (.iconst 1, 1) := by decide +kernel
theorem d_Mod_begin_60 : decode b_Mod_begin 60 = .ok (.putfield 73, 3) := by decide +kernel
theorem d_Mod_begin_63 : decode b_Mod_begin 63 = .ok (.aload_n 0, 1) := by decide +kernel
theorem d_Mod_begin_64 : decode b_Mod_begin 64 = .ok (.iload_n 1, 1) := by decide +kernel
theorem d_Mod_begin_65 : decode b_Mod_begin 65 = .ok (.putfield 131, 3) := by decide +kernel
theorem d_Mod_begin_68 : decode b_Mod_begin 68 = .ok (.aload_n 0, 1) := by decide +kernel
theorem d_Mod_begin_69 : decode b_Mod_begin 69 = .ok (.iload_n 2, 1) := by decide +kernel
theorem d_Mod_begin_70 : decode b_Mod_begin 70 = .ok (.putfield 111, 3) := by decide +kernel
theorem d_Mod_begin_73 : decode b_Mod_begin 73 = .ok (.aload_n 0, 1) := by decide +kernel
theorem d_Mod_begin_74 : decode b_Mod_begin 74 = .ok (.iload_n 3, 1) := by decide +kernel
theorem d_Mod_begin_75 : decode b_Mod_begin 75 = .ok (.putfield 98, 3) := by decide +kernel
theorem d_Mod_begin_78 : decode b_Mod_begin 78 = .ok (.aload_n 0, 1) := by decide +kernel
theorem d_Mod_begin_79 : decode b_Mod_begin 79 = .ok (.iload 4, 2) := by decide +kernel
theorem d_Mod_begin_81 : decode b_Mod_begin 81 = .ok (.putfield 141, 3) := by decide +kernel
theorem d_Mod_begin_84 : decode b_Mod_begin 84 = .ok (.aload_n 0, 1) := by decide +kernel
theorem d_Mod_begin_85 : decode b_Mod_begin 85 = .ok (.iconst 0, 1) := by decide +kernel
theorem d_Mod_begin_86 : decode b_Mod_begin 86 = .ok (.putfield 120, 3) := by decide +kernel
theorem d_Mod_begin_89 : decode b_Mod_begin 89 = .ok (.aload_n 0, 1) := by decide +kernel
theorem d_Mod_begin_90 : decode b_Mod_begin 90 = .ok (.iconst 0, 1) := by decide +kernel
theorem d_Mod_begin_91 : decode b_Mod_begin 91 = .ok (.putfield 117, 3) := by decide +kernel
theorem d_Mod_begin_94 : decode b_Mod_begin 94 = .ok (.aload_n 0, 1) := by decide +kernel
theorem d_Mod_begin_95 : decode b_Mod_begin 95 = .ok (.iconst 0, 1) := by decide +kernel
theorem d_Mod_begin_96 : decode b_Mod_begin 96 = .ok (.putfield 89, 3) := by decide +kernel
theorem d_Mod_begin_99 : decode b_Mod_begin 99 = .ok (.aload_n 0, 1) := by decide +kernel
theorem d_Mod_begin_100 : decode b_Mod_begin 100 = .ok (.iconst 0, 1) := by decide +kernel
theorem d_Mod_begin_101 : decode b_Mod_begin 101 = .ok (.putfield 114, 3) := by decide +kernel
theorem d_Mod_begin_104 : decode b_Mod_begin 104 = .ok (.aload_n 0, 1) := by decide +kernel
theorem d_Mod_begin_105 : decode b_Mod_begin 105 = .ok (.iconst 0, 1) := by decide +kernel
theorem d_Mod_begin_106 : decode b_Mod_begin 106 = .ok (.putfield 95, 3) := by decide +kernel
theorem d_Mod_begin_109 : decode b_Mod_begin 109 = .ok (.aload_n 0, 1) := by decide +kernel
theorem d_Mod_begin_110 : decode b_Mod_begin 110 = .ok (.iconst 0, 1) := by decide +kernel
theorem d_Mod_begin_111 : decode b_Mod_begin 111 = .ok (.putfield 101, 3) := by decide +kernel
theorem d_Mod_begin_114 : decode b_Mod_begin 114 = .ok (.iconst 0, 1) := by decide +kernel
theorem d_Mod_begin_115 : decode b_Mod_begin 115 = .ok (.istore 5, 2) := by decide +kernel
theorem d_Mod_begin_117 : decode b_Mod_begin 117 = .ok (.iload 5, 2) := by decide +kernel
theorem d_Mod_begin_119 : decode b_Mod_begin 119 = .ok (.bipush 6, 2) := by decide +kernel
theorem d_Mod_begin_121 : decode b_Mod_begin 121 = .ok (.if_icmp .ge 17, 3) := by decide +kernel
theorem d_Mod_begin_124 : decode b_Mod_begin 124 = .ok (.aload_n 0, 1) := by decide +kernel
theorem d_Mod_begin_125 : decode b_Mod_begin 125 = .ok (.getfield 56, 3) := by decide +kernel
theorem d_Mod_begin_128 : decode b_Mod_begin 128 = .ok (.iload 5, 2) := by decide +kernel
theorem d_Mod_begin_130 : decode b_Mod_begin 130 = .ok (.iconst 0, 1) := by decide +kernel
theorem d_Mod_begin_131 : decode b_Mod_begin 131 = .ok (.iastore, 1) := by decide +kernel
theorem d_Mod_begin_132 : decode b_Mod_begin 132 = .ok (.iinc 5 1, 3) := by decide +kernel
theorem d_Mod_begin_135 : decode b_Mod_begin 135 = .ok (.goto (-18), 3) := by decide +kernel
theorem d_Mod_begin_138 : decode b_Mod_begin 138 = .ok (.iconst 0, 1) := by decide +kernel
theorem d_Mod_begin_139 : decode b_Mod_begin 139 = .ok (.istore 5, 2) := by decide +kernel
theorem d_Mod_begin_141 : decode b_Mod_begin 141 = .ok (.iload 5, 2) := by decide +kernel
theorem d_Mod_begin_143 : decode b_Mod_begin 143 = .ok (.aload_n 0, 1) := by decide +kernel
theorem d_Mod_begin_144 : decode b_Mod_begin 144 = .ok (.getfield 82, 3) := by decide +kernel
theorem d_Mod_begin_147 : decode b_Mod_begin 147 = .ok (.if_icmp .ge 21, 3) := by decide +kernel
theorem d_Mod_begin_150 : decode b_Mod_begin 150 = .ok (.aload_n 0, 1) := by decide +kernel
theorem d_Mod_begin_151 : decode b_Mod_begin 151 = .ok (.aload_n 0, 1) := by decide +kernel
theorem d_Mod_begin_152 : decode b_Mod_begin 152 = .ok (.getfield 41, 3) := by decide +kernel
theorem d_Mod_begin_155 : decode b_Mod_begin 155 = .ok (.iload 5, 2) := by decide +kernel
theorem d_Mod_begin_157 : decode b_Mod_begin 157 = .ok (.iaload, 1) := by decide +kernel
theorem d_Mod_begin_158 : decode b_Mod_begin 158 = .ok (.iconst 0, 1) := by decide +kernel
theorem d_Mod_begin_159 : decode b_Mod_begin 159 = .ok (.invokevirtual 134, 3) := by decide +kernel
theorem d_Mod_begin_162 : decode b_Mod_begin 162 = .ok (.iinc 5 1, 3) := by decide +kernel
theorem d_Mod_begin_165 : decode b_Mod_begin 165 = .ok (.goto (-24), 3) := by decide +kernel
theorem d_Mod_begin_168 : decode b_Mod_begin 168 = .ok (.aload_n 0, 1) := by decide +kernel
theorem d_Mod_begin_169 : decode b_Mod_begin 169 = .ok (.invokevirtual 144, 3) := by decide +kernel
theorem d_Mod_begin_172 : decode b_Mod_begin 172 = .ok (.iconst 1, 1) := by decide +kernel
theorem d_Mod_begin_173 : decode b_Mod_begin 173 = .ok (.ireturn, 1) := by decide +kernel
theorem d_Mod_stop_0 : decode b_Mod_stop 0 = .ok (.aload_n 0, 1) := by decide +kernel
theorem d_Mod_stop_1 : decode b_Mod_stop 1 = .ok (.getfield 73, 3) := by decide +kernel
theorem d_Mod_stop_4 : decode b_Mod_stop 4 = .ok (.istore_n 1, 1) := by decide +kernel
theorem d_Mod_stop_5 : decode b_Mod_stop 5 = .ok (.aload_n 0, 1) := by decide +kernel
theorem d_Mod_stop_6 : decode b_Mod_stop 6 = .ok (.iconst 0, 1) := by decide +kernel
theorem d_Mod_stop_7 : decode b_Mod_stop 7 = .ok (.putfield 73, 3) := by decide +kernel
theorem d_Mod_stop_10 : decode b_Mod_stop 10 = .ok (.iload_n 1, 1) := by decide +kernel
theorem d_Mod_stop_11 : decode b_Mod_stop 11 = .ok (.ireturn, 1) := by decide +kernel
theorem d_Mod_work_0 : decode b_Mod_work 0 = .ok (.aload_n 0, 1) := by decide +kernel
theorem d_Mod_work_1 : decode b_Mod_work 1 = .ok (.getfield 73, 3) := by decide +kernel
theorem d_Mod_work_4 : decode b_Mod_work 4 = .ok (.ifCond .eq 14, 3) := by decide +kernel
theorem d_Mod_work_7 : decode b_Mod_work 7 = .ok (.iload_n 1, 1) := by decide +kernel
theorem d_Mod_work_8 : decode b_Mod_work 8 = .ok (.iconst 1, 1) := by decide +kernel
theorem d_Mod_work_9 : decode b_Mod_work 9 = .ok (.if_icmp .lt 9, 3) := by decide +kernel
theorem d_Mod_work_12 : decode b_Mod_work 12 = .ok (.iload_n 1, 1) := by decide +kernel
theorem d_Mod_work_13 : decode b_Mod_work 13 = .ok (.bipush 10, 2) := by decide +kernel
theorem d_Mod_work_15 : decode b_Mod_work 15 = .ok (.if_icmp .le 5, 3) := by decide +kernel
theorem d_Mod_work_18 : decode b_Mod_work 18 = .ok (.iconst (-1), 1) := by decide +kernel
theorem d_Mod_work_19 : decode b_Mod_work 19 = .ok (.ireturn, 1) := by decide +kernel
theorem d_Mod_work_20 : decode b_Mod_work 20 = .ok (.aload_n 0, 1) := by decide +kernel
theorem d_Mod_work_21 : decode b_Mod_work 21 = .ok (.getfield 101, 3) := by decide +kernel
theorem d_Mod_work_24 : decode b_Mod_work 24 = .ok (.istore_n 2, 1) := by decide +kernel
theorem d_Mod_work_25 : decode b_Mod_work 25 = .ok (.iconst 0, 1) := by decide +kernel
theorem d_Mod_work_26 : decode b_Mod_work 26 = .ok (.istore_n 3, 1) := by decide +kernel
theorem d_Mod_work_27 : decode b_Mod_work 27 = .ok (.iload_n 3, 1) := by decide +kernel
theorem d_Mod_work_28 : decode b_Mod_work 28 = .ok (.iload_n 1, 1) := by decide +kernel
theorem d_Mod_work_29 : decode b_Mod_work 29 = .ok (.if_icmp .ge 24, 3) := by decide +kernel
theorem d_Mod_work_32 : decode b_Mod_work 32 = .ok (.aload_n 0, 1) := by decide +kernel
theorem d_Mod_work_33 : decode b_Mod_work 33 = .ok (.getfield 120, 3) := by decide +kernel
theorem d_Mod_work_36 : decode b_Mod_work 36 = .ok (.aload_n 0, 1) := by decide +kernel
theorem d_Mod_work_37 : decode b_Mod_work 37 = .ok (.getfield 117, 3) := by decide +kernel
theorem d_Mod_work_40 : decode b_Mod_work 40 = .ok (.if_icmp .ge 13, 3) := by decide +kernel
theorem d_Mod_work_43 : decode b_Mod_work 43 = .ok (.aload_n 0, 1) := by decide +kernel
theorem d_Mod_work_44 : decode b_Mod_work 44 = .ok (.invokevirtual 159, 3) := by decide +kernel
theorem d_Mod_work_47 : decode b_Mod_work 47 = .ok (.iinc 3 1, 3) := by decide +kernel
theorem d_Mod_work_50 : decode b_Mod_work 50 = .ok (.goto (-23), 3) := by decide +kernel
theorem d_Mod_work_53 : decode b_Mod_work 53 = .ok (.aload_n 0, 1) := by decide +kernel
theorem d_Mod_work_54 : decode b_Mod_work 54 = .ok (.getfield 101, 3) := by decide +kernel
theorem d_Mod_work_57 : decode b_Mod_work 57 = .ok (.iload_n 2, 1) := by decide +kernel
theorem d_Mod_work_58 : decode b_Mod_work 58 = .ok (.isub, 1) := by decide +kernel
theorem d_Mod_work_59 : decode b_Mod_work 59 = .ok (.ireturn, 1) := by decide +kernel
theorem d_Mod_crash_0 : decode b_Mod_crash 0 = .ok (.aload_n 0, 1) := by decide +kernel
theorem d_Mod_crash_1 : decode b_Mod_crash 1 = .ok (.getfield 73, 3) := by decide +kernel
theorem d_Mod_crash_4 : decode b_Mod_crash 4 = .ok (.ifCond .ne 5, 3) := by decide +kernel
theorem d_Mod_crash_7 : decode b_Mod_crash 7 = .ok (.iconst (-1), 1) := by decide +kernel
theorem d_Mod_crash_8 : decode b_Mod_crash 8 = .ok (.ireturn, 1) := by decide +kernel
theorem d_Mod_crash_9 : decode b_Mod_crash 9 = .ok (.aload_n 0, 1) := by decide +kernel
theorem d_Mod_crash_10 : decode b_Mod_crash 10 = .ok (.getfield 138, 3) := by decide +kernel
theorem d_Mod_crash_13 : decode b_Mod_crash 13 = .ok (.istore_n 1, 1) := by decide +kernel
theorem d_Mod_crash_14 : decode b_Mod_crash 14 = .ok (.aload_n 0, 1) := by decide +kernel
theorem d_Mod_crash_15 : decode b_Mod_crash 15 = .ok (.aload_n 0, 1) := by decide +kernel
theorem d_Mod_crash_16 : decode b_Mod_crash 16 = .ok (.getfield 147, 3) := by decide +kernel
theorem d_Mod_crash_19 : decode b_Mod_crash 19 = .ok (.putfield 120, 3) := by decide +kernel
theorem d_Mod_crash_22 : decode b_Mod_crash 22 = .ok (.aload_n 0, 1) := by decide +kernel
theorem d_Mod_crash_23 : decode b_Mod_crash 23 = .ok (.aload_n 0, 1) := by decide +kernel
theorem d_Mod_crash_24 : decode b_Mod_crash 24 = .ok (.getfield 150, 3) := by decide +kernel
theorem d_Mod_crash_27 : decode b_Mod_crash 27 = .ok (.putfield 117, 3) := by decide +kernel
theorem d_Mod_crash_30 : decode b_Mod_crash 30 = .ok (.aload_n 0, 1) := by decide +kernel
theorem d_Mod_crash_31 : decode b_Mod_crash 31 = .ok (.aload_n 0, 1) := by decide +kernel
theorem d_Mod_crash_32 : decode b_Mod_crash 32 = .ok (.getfield 153, 3) := by decide +kernel
theorem d_Mod_crash_35 : decode b_Mod_crash 35 = .ok (.putfield 89, 3) := by decide +kernel
theorem d_Mod_crash_38 : decode b_Mod_crash 38 = .ok (.aload_n 0, 1) := by decide +kernel
theorem d_Mod_crash_39 : decode b_Mod_crash 39 = .ok (.aload_n 0, 1) := by decide +kernel
theorem d_Mod_crash_40 : decode b_Mod_crash 40 = .ok (.getfield 156, 3) := by decide +kernel
theorem d_Mod_crash_43 : decode b_Mod_crash 43 = .ok (.putfield 114, 3) := by decide +kernel
theorem d_Mod_crash_46 : decode b_Mod_crash 46 = .ok (.aload_n 0, 1) := by decide +kernel
theorem d_Mod_crash_47 : decode b_Mod_crash 47 = .ok (.iconst 0, 1) := by decide +kernel
theorem d_Mod_crash_48 : decode b_Mod_crash 48 = .ok (.putfield 138, 3) := by decide +kernel
theorem d_Mod_crash_51 : decode b_Mod_crash 51 = .ok (.iconst 0, 1) := by decide +kernel
theorem d_Mod_crash_52 : decode b_Mod_crash 52 = .ok (.istore_n 2, 1) := by decide +kernel
theorem d_Mod_crash_53 : decode b_Mod_crash 53 = .ok (.iload_n 2, 1) := by decide +kernel
theorem d_Mod_crash_54 : decode b_Mod_crash 54 = .ok (.bipush 6, 2) := by decide +kernel
theorem d_Mod_crash_56 : decode b_Mod_crash 56 = .ok (.if_icmp .ge 24, 3) := by decide +kernel
theorem d_Mod_crash_59 : decode b_Mod_crash 59 = .ok (.aload_n 0, 1) := by decide +kernel
theorem d_Mod_crash_60 : decode b_Mod_crash 60 = .ok (.getfield 56, 3) := by decide +kernel
theorem d_Mod_crash_63 : decode b_Mod_crash 63 = .ok (.iload_n 2, 1) := by decide +kernel
theorem d_Mod_crash_64 : decode b_Mod_crash 64 = .ok (.aload_n 0, 1) := by decide +kernel
theorem d_Mod_crash_65 : decode b_Mod_crash 65 = .ok (.getfield 95, 3) := by decide +kernel
theorem d_Mod_crash_68 : decode b_Mod_crash 68 = .ok (.aload_n 0, 1) := by decide +kernel
theorem d_Mod_crash_69 : decode b_Mod_crash 69 = .ok (.getfield 98, 3) := by decide +kernel
theorem d_Mod_crash_72 : decode b_Mod_crash 72 = .ok (.iadd, 1) := by decide +kernel
theorem d_Mod_crash_73 : decode b_Mod_crash 73 = .ok (.iastore, 1) := by decide +kernel
theorem d_Mod_crash_74 : decode b_Mod_crash 74 = .ok (.iinc 2 1, 3) := by decide +kernel
theorem d_Mod_crash_77 : decode b_Mod_crash 77 = .ok (.goto (-24), 3) := by decide +kernel
theorem d_Mod_crash_80 : decode b_Mod_crash 80 = .ok (.iload_n 1, 1) := by decide +kernel
theorem d_Mod_crash_81 : decode b_Mod_crash 81 = .ok (.ireturn, 1) := by decide +kernel
theorem d_Mod_found_0 : decode b_Mod_found 0 = .ok (.aload_n 0, 1) := by decide +kernel
theorem d_Mod_found_1 : decode b_Mod_found 1 = .ok (.getfield 73, 3) := by decide +kernel
theorem d_Mod_found_4 : decode b_Mod_found 4 = .ok (.ifCond .eq 20, 3) := by decide +kernel
theorem d_Mod_found_7 : decode b_Mod_found 7 = .ok (.aload_n 0, 1) := by decide +kernel
theorem d_Mod_found_8 : decode b_Mod_found 8 = .ok (.iload_n 1, 1) := by decide +kernel
theorem d_Mod_found_9 : decode b_Mod_found 9 = .ok (.invokevirtual 78, 3) := by decide +kernel
theorem d_Mod_found_12 : decode b_Mod_found 12 = .ok (.ifCond .eq 12, 3) := by decide +kernel
theorem d_Mod_found_15 : decode b_Mod_found 15 = .ok (.aload_n 0, 1) := by decide +kernel
theorem d_Mod_found_16 : decode b_Mod_found 16 = .ok (.iload_n 1, 1) := by decide +kernel
theorem d_Mod_found_17 : decode b_Mod_found 17 = .ok (.iconst 0, 1) := by decide +kernel
theorem d_Mod_found_18 : decode b_Mod_found 18 = .ok (.invokevirtual 123, 3) := by decide +kernel
theorem d_Mod_found_21 : decode b_Mod_found 21 = .ok (.goto 4, 3) := by decide +kernel
theorem d_Mod_found_24 : decode b_Mod_found 24 = .ok (.iconst (-1), 1) := by decide +kernel
theorem d_Mod_found_25 : decode b_Mod_found 25 = .ok (.ireturn, 1) := by decide +kernel
theorem d_Mod_clock_0 : decode b_Mod_clock 0 = .ok (.aload_n 0, 1) := by decide +kernel
theorem d_Mod_clock_1 : decode b_Mod_clock 1 = .ok (.getfield 73, 3) := by decide +kernel
theorem d_Mod_clock_4 : decode b_Mod_clock 4 = .ok (.ifCond .eq 10, 3) := by decide +kernel
theorem d_Mod_clock_7 : decode b_Mod_clock 7 = .ok (.aload_n 0, 1) := by decide +kernel
theorem d_Mod_clock_8 : decode b_Mod_clock 8 = .ok (.getfield 95, 3) := by decide +kernel
theorem d_Mod_clock_11 : decode b_Mod_clock 11 = .ok (.goto 4, 3) := by decide +kernel
theorem d_Mod_clock_14 : decode b_Mod_clock 14 = .ok (.iconst 0, 1) := by decide +kernel
theorem d_Mod_clock_15 : decode b_Mod_clock 15 = .ok (.ireturn, 1) := by decide +kernel
end
section
/-! Decoded instructions of Mod. -/
theorem d_Mod_fetches_0 : decode b_Mod_fetches 0 = .ok (.aload_n 0, 1) := by decide +kernel
theorem d_Mod_fetches_1 : decode b_Mod_fetches 1 = .ok (.getfield 73, 3) := by decide +kernel
theorem d_Mod_fetches_4 : decode b_Mod_fetches 4 = .ok (.ifCond .eq 10, 3) := by decide +kernel
theorem d_Mod_fetches_7 : decode b_Mod_fetches 7 = .ok (.aload_n 0, 1) := by decide +kernel
theorem d_Mod_fetches_8 : decode b_Mod_fetches 8 = .ok (.getfield 101, 3) := by decide +kernel
theorem d_Mod_fetches_11 : decode b_Mod_fetches 11 = .ok (.goto 4, 3) := by decide +kernel
theorem d_Mod_fetches_14 : decode b_Mod_fetches 14 = .ok (.iconst 0, 1) := by decide +kernel
theorem d_Mod_fetches_15 : decode b_Mod_fetches 15 = .ok (.ireturn, 1) := by decide +kernel
theorem d_Mod_waiting_0 : decode b_Mod_waiting 0 = .ok (.aload_n 0, 1) := by decide +kernel
theorem d_Mod_waiting_1 : decode b_Mod_waiting 1 = .ok (.getfield 73, 3) := by decide +kernel
theorem d_Mod_waiting_4 : decode b_Mod_waiting 4 = .ok (.ifCond .eq 15, 3) := by decide +kernel
theorem d_Mod_waiting_7 : decode b_Mod_waiting 7 = .ok (.aload_n 0, 1) := by decide +kernel
theorem d_Mod_waiting_8 : decode b_Mod_waiting 8 = .ok (.getfield 117, 3) := by decide +kernel
theorem d_Mod_waiting_11 : decode b_Mod_waiting 11 = .ok (.aload_n 0, 1) := by decide +kernel
theorem d_Mod_waiting_12 : decode b_Mod_waiting 12 = .ok (.getfield 120, 3) := by decide +kernel
theorem d_Mod_waiting_15 : decode b_Mod_waiting 15 = .ok (.isub, 1) := by decide +kernel
theorem d_Mod_waiting_16 : decode b_Mod_waiting 16 = .ok (.goto 4, 3) := by decide +kernel
theorem d_Mod_waiting_19 : decode b_Mod_waiting 19 = .ok (.iconst 0, 1) := by decide +kernel
theorem d_Mod_waiting_20 : decode b_Mod_waiting 20 = .ok (.ireturn, 1) := by decide +kernel
theorem d_Mod_corpusAt_0 : decode b_Mod_corpusAt 0 = .ok (.aload_n 0, 1) := by decide +kernel
theorem d_Mod_corpusAt_1 : decode b_Mod_corpusAt 1 = .ok (.getfield 73, 3) := by decide +kernel
theorem d_Mod_corpusAt_4 : decode b_Mod_corpusAt 4 = .ok (.ifCond .eq 24, 3) := by decide +kernel
theorem d_Mod_corpusAt_7 : decode b_Mod_corpusAt 7 = .ok (.iload_n 1, 1) := by decide +kernel
theorem d_Mod_corpusAt_8 : decode b_Mod_corpusAt 8 = .ok (.ifCond .lt 20, 3) := by decide +kernel
theorem d_Mod_corpusAt_11 : decode b_Mod_corpusAt 11 = .ok (.iload_n 1, 1) := by decide +kernel
theorem d_Mod_corpusAt_12 : decode b_Mod_corpusAt 12 = .ok (.aload_n 0, 1) := by decide +kernel
theorem d_Mod_corpusAt_13 : decode b_Mod_corpusAt 13 = .ok (.getfield 114, 3) := by decide +kernel
theorem d_Mod_corpusAt_16 : decode b_Mod_corpusAt 16 = .ok (.if_icmp .ge 12, 3) := by decide +kernel
theorem d_Mod_corpusAt_19 : decode b_Mod_corpusAt 19 = .ok (.aload_n 0, 1) := by decide +kernel
theorem d_Mod_corpusAt_20 : decode b_Mod_corpusAt 20 = .ok (.getfield 53, 3) := by decide +kernel
theorem d_Mod_corpusAt_23 : decode b_Mod_corpusAt 23 = .ok (.iload_n 1, 1) := by decide +kernel
theorem d_Mod_corpusAt_24 : decode b_Mod_corpusAt 24 = .ok (.iaload, 1) := by decide +kernel
theorem d_Mod_corpusAt_25 : decode b_Mod_corpusAt 25 = .ok (.goto 4, 3) := by decide +kernel
theorem d_Mod_corpusAt_28 : decode b_Mod_corpusAt 28 = .ok (.iconst (-1), 1) := by decide +kernel
theorem d_Mod_corpusAt_29 : decode b_Mod_corpusAt 29 = .ok (.ireturn, 1) := by decide +kernel
theorem d_Mod_sameBody_0 : decode b_Mod_sameBody 0 = .ok (.aload_n 0, 1) := by decide +kernel
theorem d_Mod_sameBody_1 : decode b_Mod_sameBody 1 = .ok (.getfield 22, 3) := by decide +kernel
theorem d_Mod_sameBody_4 : decode b_Mod_sameBody 4 = .ok (.iload_n 1, 1) := by decide +kernel
theorem d_Mod_sameBody_5 : decode b_Mod_sameBody 5 = .ok (.iaload, 1) := by decide +kernel
theorem d_Mod_sameBody_6 : decode b_Mod_sameBody 6 = .ok (.aload_n 0, 1) := by decide +kernel
theorem d_Mod_sameBody_7 : decode b_Mod_sameBody 7 = .ok (.getfield 22, 3) := by decide +kernel
theorem d_Mod_sameBody_10 : decode b_Mod_sameBody 10 = .ok (.iload_n 2, 1) := by decide +kernel
theorem d_Mod_sameBody_11 : decode b_Mod_sameBody 11 = .ok (.iaload, 1) := by decide +kernel
theorem d_Mod_sameBody_12 : decode b_Mod_sameBody 12 = .ok (.if_icmp .ne 7, 3) := by decide +kernel
theorem d_Mod_sameBody_15 : decode b_Mod_sameBody 15 = .ok (.iconst 1, 1) := by decide +kernel
theorem d_Mod_sameBody_16 : decode b_Mod_sameBody 16 = .ok (.goto 4, 3) := by decide +kernel
theorem d_Mod_sameBody_19 : decode b_Mod_sameBody 19 = .ok (.iconst 0, 1) := by decide +kernel
theorem d_Mod_sameBody_20 : decode b_Mod_sameBody 20 = .ok (.istore_n 3, 1) := by decide +kernel
theorem d_Mod_sameBody_21 : decode b_Mod_sameBody 21 = .ok (.iconst 0, 1) := by decide +kernel
theorem d_Mod_sameBody_22 : decode b_Mod_sameBody 22 = .ok (.istore 4, 2) := by decide +kernel
theorem d_Mod_sameBody_24 : decode b_Mod_sameBody 24 = .ok (.iload 4, 2) := by decide +kernel
theorem d_Mod_sameBody_26 : decode b_Mod_sameBody 26 = .ok (.aload_n 0, 1) := by decide +kernel
theorem d_Mod_sameBody_27 : decode b_Mod_sameBody 27 = .ok (.getfield 22, 3) := by decide +kernel
theorem d_Mod_sameBody_30 : decode b_Mod_sameBody 30 = .ok (.iload_n 1, 1) := by decide +kernel
theorem d_Mod_sameBody_31 : decode b_Mod_sameBody 31 = .ok (.iaload, 1) := by decide +kernel
theorem d_Mod_sameBody_32 : decode b_Mod_sameBody 32 = .ok (.if_icmp .ge 46, 3) := by decide +kernel
theorem d_Mod_sameBody_35 : decode b_Mod_sameBody 35 = .ok (.iload_n 3, 1) := by decide +kernel
theorem d_Mod_sameBody_36 : decode b_Mod_sameBody 36 = .ok (.ifCond .eq 42, 3) := by decide +kernel
theorem d_Mod_sameBody_39 : decode b_Mod_sameBody 39 = .ok (.aload_n 0, 1) := by decide +kernel
theorem d_Mod_sameBody_40 : decode b_Mod_sameBody 40 = .ok (.getfield 19, 3) := by decide +kernel
theorem d_Mod_sameBody_43 : decode b_Mod_sameBody 43 = .ok (.bipush 8, 2) := by decide +kernel
theorem d_Mod_sameBody_45 : decode b_Mod_sameBody 45 = .ok (.iload_n 1, 1) := by decide +kernel
theorem d_Mod_sameBody_46 : decode b_Mod_sameBody 46 = .ok (.imul, 1) := by decide +kernel
theorem d_Mod_sameBody_47 : decode b_Mod_sameBody 47 = .ok (.iload 4, 2) := by decide +kernel
theorem d_Mod_sameBody_49 : decode b_Mod_sameBody 49 = .ok (.iadd, 1) := by decide +kernel
theorem d_Mod_sameBody_50 : decode b_Mod_sameBody 50 = .ok (.iaload, 1) := by decide +kernel
theorem d_Mod_sameBody_51 : decode b_Mod_sameBody 51 = .ok (.aload_n 0, 1) := by decide +kernel
theorem d_Mod_sameBody_52 : decode b_Mod_sameBody 52 = .ok (.getfield 19, 3) := by decide +kernel
theorem d_Mod_sameBody_55 : decode b_Mod_sameBody 55 = .ok (.bipush 8, 2) := by decide +kernel
theorem d_Mod_sameBody_57 : decode b_Mod_sameBody 57 = .ok (.iload_n 2, 1) := by decide +kernel
theorem d_Mod_sameBody_58 : decode b_Mod_sameBody 58 = .ok (.imul, 1) := by decide +kernel
theorem d_Mod_sameBody_59 : decode b_Mod_sameBody 59 = .ok (.iload 4, 2) := by decide +kernel
theorem d_Mod_sameBody_61 : decode b_Mod_sameBody 61 = .ok (.iadd, 1) := by decide +kernel
theorem d_Mod_sameBody_62 : decode b_Mod_sameBody 62 = .ok (.iaload, 1) := by decide +kernel
theorem d_Mod_sameBody_63 : decode b_Mod_sameBody 63 = .ok (.if_icmp .ne 7, 3) := by decide +kernel
theorem d_Mod_sameBody_66 : decode b_Mod_sameBody 66 = .ok (.iconst 1, 1) := by decide +kernel
theorem d_Mod_sameBody_67 : decode b_Mod_sameBody 67 = .ok (.goto 4, 3) := by decide +kernel
theorem d_Mod_sameBody_70 : decode b_Mod_sameBody 70 = .ok (.iconst 0, 1) := by decide +kernel
theorem d_Mod_sameBody_71 : decode b_Mod_sameBody 71 = .ok (.istore_n 3, 1) := by decide +kernel
theorem d_Mod_sameBody_72 : decode b_Mod_sameBody 72 = .ok (.iinc 4 1, 3) := by decide +kernel
theorem d_Mod_sameBody_75 : decode b_Mod_sameBody 75 = .ok (.goto (-51), 3) := by decide +kernel
theorem d_Mod_sameBody_78 : decode b_Mod_sameBody 78 = .ok (.iload_n 3, 1) := by decide +kernel
theorem d_Mod_sameBody_79 : decode b_Mod_sameBody 79 = .ok (.ireturn, 1) := by decide +kernel
theorem d_Mod_document_0 : decode b_Mod_document 0 = .ok (.aload_n 0, 1) := by decide +kernel
theorem d_Mod_document_1 : decode b_Mod_document 1 = .ok (.getfield 73, 3) := by decide +kernel
theorem d_Mod_document_4 : decode b_Mod_document 4 = .ok (.ifCond .eq 11, 3) := by decide +kernel
theorem d_Mod_document_7 : decode b_Mod_document 7 = .ok (.aload_n 0, 1) := by decide +kernel
theorem d_Mod_document_8 : decode b_Mod_document 8 = .ok (.iload_n 1, 1) := by decide +kernel
theorem d_Mod_document_9 : decode b_Mod_document 9 = .ok (.invokevirtual 127, 3) := by decide +kernel
theorem d_Mod_document_12 : decode b_Mod_document 12 = .ok (.ifCond .ge 5, 3) := by decide +kernel
theorem d_Mod_document_15 : decode b_Mod_document 15 = .ok (.iconst (-1), 1) := by decide +kernel
theorem d_Mod_document_16 : decode b_Mod_document 16 = .ok (.ireturn, 1) := by decide +kernel
theorem d_Mod_document_17 : decode b_Mod_document 17 = .ok (.iconst 0, 1) := by decide +kernel
theorem d_Mod_document_18 : decode b_Mod_document 18 = .ok (.istore_n 2, 1) := by decide +kernel
theorem d_Mod_document_19 : decode b_Mod_document 19 = .ok (.iload_n 2, 1) := by decide +kernel
theorem d_Mod_document_20 : decode b_Mod_document 20 = .ok (.aload_n 0, 1) := by decide +kernel
theorem d_Mod_document_21 : decode b_Mod_document 21 = .ok (.getfield 114, 3) := by decide +kernel
theorem d_Mod_document_24 : decode b_Mod_document 24 = .ok (.if_icmp .ge 30, 3) := by decide +kernel
theorem d_Mod_document_27 : decode b_Mod_document 27 = .ok (.aload_n 0, 1) := by decide +kernel
theorem d_Mod_document_28 : decode b_Mod_document 28 = .ok (.aload_n 0, 1) := by decide +kernel
theorem d_Mod_document_29 : decode b_Mod_document 29 = .ok (.getfield 53, 3) := by decide +kernel
theorem d_Mod_document_32 : decode b_Mod_document 32 = .ok (.iload_n 2, 1) := by decide +kernel
theorem d_Mod_document_33 : decode b_Mod_document 33 = .ok (.iaload, 1) := by decide +kernel
theorem d_Mod_document_34 : decode b_Mod_document 34 = .ok (.iload_n 1, 1) := by decide +kernel
theorem d_Mod_document_35 : decode b_Mod_document 35 = .ok (.invokevirtual 162, 3) := by decide +kernel
theorem d_Mod_document_38 : decode b_Mod_document 38 = .ok (.ifCond .eq 10, 3) := by decide +kernel
theorem d_Mod_document_41 : decode b_Mod_document 41 = .ok (.aload_n 0, 1) := by decide +kernel
theorem d_Mod_document_42 : decode b_Mod_document 42 = .ok (.getfield 53, 3) := by decide +kernel
theorem d_Mod_document_45 : decode b_Mod_document 45 = .ok (.iload_n 2, 1) := by decide +kernel
theorem d_Mod_document_46 : decode b_Mod_document 46 = .ok (.iaload, 1) := by decide +kernel
theorem d_Mod_document_47 : decode b_Mod_document 47 = .ok (.ireturn, 1) := by decide +kernel
theorem d_Mod_document_48 : decode b_Mod_document 48 = .ok (.iinc 2 1, 3) := by decide +kernel
theorem d_Mod_document_51 : decode b_Mod_document 51 = .ok (.goto (-32), 3) := by decide +kernel
theorem d_Mod_document_54 : decode b_Mod_document 54 = .ok (.iconst (-1), 1) := by decide +kernel
theorem d_Mod_document_55 : decode b_Mod_document 55 = .ok (.ireturn, 1) := by decide +kernel
theorem d_Mod_isDocument_0 : decode b_Mod_isDocument 0 = .ok (.iload_n 1, 1) := by decide +kernel
theorem d_Mod_isDocument_1 : decode b_Mod_isDocument 1 = .ok (.ifCond .lt 16, 3) := by decide +kernel
theorem d_Mod_isDocument_4 : decode b_Mod_isDocument 4 = .ok (.aload_n 0, 1) := by decide +kernel
theorem d_Mod_isDocument_5 : decode b_Mod_isDocument 5 = .ok (.iload_n 1, 1) := by decide +kernel
theorem d_Mod_isDocument_6 : decode b_Mod_isDocument 6 = .ok (.invokevirtual 166, 3) := by decide +kernel
theorem d_Mod_isDocument_9 : decode b_Mod_isDocument 9 = .ok (.iload_n 1, 1) := by decide +kernel
theorem d_Mod_isDocument_10 : decode b_Mod_isDocument 10 = .ok (.if_icmp .ne 7, 3) := by decide +kernel
theorem d_Mod_isDocument_13 : decode b_Mod_isDocument 13 = .ok (.iconst 1, 1) := by decide +kernel
theorem d_Mod_isDocument_14 : decode b_Mod_isDocument 14 = .ok (.goto 4, 3) := by decide +kernel
theorem d_Mod_isDocument_17 : decode b_Mod_isDocument 17 = .ok (.iconst 0, 1) := by decide +kernel
theorem d_Mod_isDocument_18 : decode b_Mod_isDocument 18 = .ok (.ireturn, 1) := by decide +kernel
theorem d_Mod_rankAll_0 : decode b_Mod_rankAll 0 = .ok (.iconst 0, 1) := by decide +kernel
theorem d_Mod_rankAll_1 : decode b_Mod_rankAll 1 = .ok (.istore_n 2, 1) := by decide +kernel
theorem d_Mod_rankAll_2 : decode b_Mod_rankAll 2 = .ok (.iload_n 2, 1) := by decide +kernel
theorem d_Mod_rankAll_3 : decode b_Mod_rankAll 3 = .ok (.aload_n 0, 1) := by decide +kernel
theorem d_Mod_rankAll_4 : decode b_Mod_rankAll 4 = .ok (.getfield 69, 3) := by decide +kernel
theorem d_Mod_rankAll_7 : decode b_Mod_rankAll 7 = .ok (.if_icmp .ge 78, 3) := by decide +kernel
theorem d_Mod_rankAll_10 : decode b_Mod_rankAll 10 = .ok (.aload_n 0, 1) := by decide +kernel
theorem d_Mod_rankAll_11 : decode b_Mod_rankAll 11 = .ok (.getfield 62, 3) := by decide +kernel
theorem d_Mod_rankAll_14 : decode b_Mod_rankAll 14 = .ok (.iload_n 2, 1) := by decide +kernel
theorem d_Mod_rankAll_15 : decode b_Mod_rankAll 15 = .ok (.ldc2_w 169, 3) := by decide +kernel
theorem d_Mod_rankAll_18 : decode b_Mod_rankAll 18 = .ok (.lastore, 1) := by decide +kernel
theorem d_Mod_rankAll_19 : decode b_Mod_rankAll 19 = .ok (.iconst 0, 1) := by decide +kernel
theorem d_Mod_rankAll_20 : decode b_Mod_rankAll 20 = .ok (.istore_n 3, 1) := by decide +kernel
theorem d_Mod_rankAll_21 : decode b_Mod_rankAll 21 = .ok (.iload_n 3, 1) := by decide +kernel
theorem d_Mod_rankAll_22 : decode b_Mod_rankAll 22 = .ok (.aload_n 0, 1) := by decide +kernel
theorem d_Mod_rankAll_23 : decode b_Mod_rankAll 23 = .ok (.getfield 28, 3) := by decide +kernel
theorem d_Mod_rankAll_26 : decode b_Mod_rankAll 26 = .ok (.iload_n 2, 1) := by decide +kernel
theorem d_Mod_rankAll_27 : decode b_Mod_rankAll 27 = .ok (.iaload, 1) := by decide +kernel
theorem d_Mod_rankAll_28 : decode b_Mod_rankAll 28 = .ok (.if_icmp .ge 51, 3) := by decide +kernel
theorem d_Mod_rankAll_31 : decode b_Mod_rankAll 31 = .ok (.aload_n 0, 1) := by decide +kernel
theorem d_Mod_rankAll_32 : decode b_Mod_rankAll 32 = .ok (.aload_n 0, 1) := by decide +kernel
theorem d_Mod_rankAll_33 : decode b_Mod_rankAll 33 = .ok (.getfield 25, 3) := by decide +kernel
theorem d_Mod_rankAll_36 : decode b_Mod_rankAll 36 = .ok (.iconst 5, 1) := by decide +kernel
theorem d_Mod_rankAll_37 : decode b_Mod_rankAll 37 = .ok (.iload_n 2, 1) := by decide +kernel
theorem d_Mod_rankAll_38 : decode b_Mod_rankAll 38 = .ok (.imul, 1) := by decide +kernel
theorem d_Mod_rankAll_39 : decode b_Mod_rankAll 39 = .ok (.iload_n 3, 1) := by decide +kernel
theorem d_Mod_rankAll_40 : decode b_Mod_rankAll 40 = .ok (.iadd, 1) := by decide +kernel
theorem d_Mod_rankAll_41 : decode b_Mod_rankAll 41 = .ok (.iaload, 1) := by decide +kernel
theorem d_Mod_rankAll_42 : decode b_Mod_rankAll 42 = .ok (.iconst 0, 1) := by decide +kernel
theorem d_Mod_rankAll_43 : decode b_Mod_rankAll 43 = .ok (.invokevirtual 123, 3) := by decide +kernel
theorem d_Mod_rankAll_46 : decode b_Mod_rankAll 46 = .ok (.istore 4, 2) := by decide +kernel
theorem d_Mod_rankAll_48 : decode b_Mod_rankAll 48 = .ok (.aload_n 0, 1) := by decide +kernel
theorem d_Mod_rankAll_49 : decode b_Mod_rankAll 49 = .ok (.getfield 59, 3) := by decide +kernel
theorem d_Mod_rankAll_52 : decode b_Mod_rankAll 52 = .ok (.iconst 5, 1) := by decide +kernel
theorem d_Mod_rankAll_53 : decode b_Mod_rankAll 53 = .ok (.iload_n 2, 1) := by decide +kernel
theorem d_Mod_rankAll_54 : decode b_Mod_rankAll 54 = .ok (.imul, 1) := by decide +kernel
theorem d_Mod_rankAll_55 : decode b_Mod_rankAll 55 = .ok (.iload_n 3, 1) := by decide +kernel
theorem d_Mod_rankAll_56 : decode b_Mod_rankAll 56 = .ok (.iadd, 1) := by decide +kernel
theorem d_Mod_rankAll_57 : decode b_Mod_rankAll 57 = .ok (.iload 4, 2) := by decide +kernel
theorem d_Mod_rankAll_59 : decode b_Mod_rankAll 59 = .ok (.ifCond .ge 7, 3) := by decide +kernel
theorem d_Mod_rankAll_62 : decode b_Mod_rankAll 62 = .ok (.iconst (-1), 1) := by decide +kernel
theorem d_Mod_rankAll_63 : decode b_Mod_rankAll 63 = .ok (.goto 9, 3) := by decide +kernel
theorem d_Mod_rankAll_66 : decode b_Mod_rankAll 66 = .ok (.aload_n 0, 1) := by decide +kernel
theorem d_Mod_rankAll_67 : decode b_Mod_rankAll 67 = .ok (.iload 4, 2) := by decide +kernel
theorem d_Mod_rankAll_69 : decode b_Mod_rankAll 69 = .ok (.invokevirtual 166, 3) := by decide +kernel
theorem d_Mod_rankAll_72 : decode b_Mod_rankAll 72 = .ok (.iastore, 1) := by decide +kernel
theorem d_Mod_rankAll_73 : decode b_Mod_rankAll 73 = .ok (.iinc 3 1, 3) := by decide +kernel
theorem d_Mod_rankAll_76 : decode b_Mod_rankAll 76 = .ok (.goto (-55), 3) := by decide +kernel
theorem d_Mod_rankAll_79 : decode b_Mod_rankAll 79 = .ok (.iinc 2 1, 3) := by decide +kernel
theorem d_Mod_rankAll_82 : decode b_Mod_rankAll 82 = .ok (.goto (-80), 3) := by decide +kernel
theorem d_Mod_rankAll_85 : decode b_Mod_rankAll 85 = .ok (.iconst 0, 1) := by decide +kernel
theorem d_Mod_rankAll_86 : decode b_Mod_rankAll 86 = .ok (.istore_n 2, 1) := by decide +kernel
theorem d_Mod_rankAll_87 : decode b_Mod_rankAll 87 = .ok (.iload_n 2, 1) := by decide +kernel
theorem d_Mod_rankAll_88 : decode b_Mod_rankAll 88 = .ok (.iload_n 1, 1) := by decide +kernel
theorem d_Mod_rankAll_89 : decode b_Mod_rankAll 89 = .ok (.if_icmp .ge 76, 3) := by decide +kernel
theorem d_Mod_rankAll_92 : decode b_Mod_rankAll 92 = .ok (.iconst 0, 1) := by decide +kernel
theorem d_Mod_rankAll_93 : decode b_Mod_rankAll 93 = .ok (.istore_n 3, 1) := by decide +kernel
theorem d_Mod_rankAll_94 : decode b_Mod_rankAll 94 = .ok (.iload_n 3, 1) := by decide +kernel
theorem d_Mod_rankAll_95 : decode b_Mod_rankAll 95 = .ok (.aload_n 0, 1) := by decide +kernel
theorem d_Mod_rankAll_96 : decode b_Mod_rankAll 96 = .ok (.getfield 69, 3) := by decide +kernel
theorem d_Mod_rankAll_99 : decode b_Mod_rankAll 99 = .ok (.if_icmp .ge 21, 3) := by decide +kernel
theorem d_Mod_rankAll_102 : decode b_Mod_rankAll 102 = .ok (.aload_n 0, 1) := by decide +kernel
theorem d_Mod_rankAll_103 : decode b_Mod_rankAll 103 = .ok (.getfield 66, 3) := by decide +kernel
theorem d_Mod_rankAll_106 : decode b_Mod_rankAll 106 = .ok (.iload_n 3, 1) := by decide +kernel
theorem d_Mod_rankAll_107 : decode b_Mod_rankAll 107 = .ok (.aload_n 0, 1) := by decide +kernel
theorem d_Mod_rankAll_108 : decode b_Mod_rankAll 108 = .ok (.getfield 62, 3) := by decide +kernel
theorem d_Mod_rankAll_111 : decode b_Mod_rankAll 111 = .ok (.iload_n 3, 1) := by decide +kernel
theorem d_Mod_rankAll_112 : decode b_Mod_rankAll 112 = .ok (.laload, 1) := by decide +kernel
theorem d_Mod_rankAll_113 : decode b_Mod_rankAll 113 = .ok (.lastore, 1) := by decide +kernel
theorem d_Mod_rankAll_114 : decode b_Mod_rankAll 114 = .ok (.iinc 3 1, 3) := by decide +kernel
theorem d_Mod_rankAll_117 : decode b_Mod_rankAll 117 = .ok (.goto (-23), 3) := by decide +kernel
theorem d_Mod_rankAll_120 : decode b_Mod_rankAll 120 = .ok (.iconst 0, 1) := by decide +kernel
theorem d_Mod_rankAll_121 : decode b_Mod_rankAll 121 = .ok (.istore_n 3, 1) := by decide +kernel
theorem d_Mod_rankAll_122 : decode b_Mod_rankAll 122 = .ok (.iload_n 3, 1) := by decide +kernel
theorem d_Mod_rankAll_123 : decode b_Mod_rankAll 123 = .ok (.aload_n 0, 1) := by decide +kernel
theorem d_Mod_rankAll_124 : decode b_Mod_rankAll 124 = .ok (.getfield 69, 3) := by decide +kernel
theorem d_Mod_rankAll_127 : decode b_Mod_rankAll 127 = .ok (.if_icmp .ge 32, 3) := by decide +kernel
theorem d_Mod_rankAll_130 : decode b_Mod_rankAll 130 = .ok (.aload_n 0, 1) := by decide +kernel
theorem d_Mod_rankAll_131 : decode b_Mod_rankAll 131 = .ok (.getfield 62, 3) := by decide +kernel
theorem d_Mod_rankAll_134 : decode b_Mod_rankAll 134 = .ok (.iload_n 3, 1) := by decide +kernel
theorem d_Mod_rankAll_135 : decode b_Mod_rankAll 135 = .ok (.ldc2_w 171, 3) := by decide +kernel
theorem d_Mod_rankAll_138 : decode b_Mod_rankAll 138 = .ok (.ldc2_w 173, 3) := by decide +kernel
theorem d_Mod_rankAll_141 : decode b_Mod_rankAll 141 = .ok (.aload_n 0, 1) := by decide +kernel
theorem d_Mod_rankAll_142 : decode b_Mod_rankAll 142 = .ok (.iload_n 3, 1) := by decide +kernel
theorem d_Mod_rankAll_143 : decode b_Mod_rankAll 143 = .ok (.invokevirtual 175, 3) := by decide +kernel
theorem d_Mod_rankAll_146 : decode b_Mod_rankAll 146 = .ok (.lmul, 1) := by decide +kernel
theorem d_Mod_rankAll_147 : decode b_Mod_rankAll 147 = .ok (.ldc2_w 179, 3) := by decide +kernel
theorem d_Mod_rankAll_150 : decode b_Mod_rankAll 150 = .ok (.ldiv, 1) := by decide +kernel
theorem d_Mod_rankAll_151 : decode b_Mod_rankAll 151 = .ok (.ladd, 1) := by decide +kernel
theorem d_Mod_rankAll_152 : decode b_Mod_rankAll 152 = .ok (.lastore, 1) := by decide +kernel
theorem d_Mod_rankAll_153 : decode b_Mod_rankAll 153 = .ok (.iinc 3 1, 3) := by decide +kernel
theorem d_Mod_rankAll_156 : decode b_Mod_rankAll 156 = .ok (.goto (-34), 3) := by decide +kernel
theorem d_Mod_rankAll_159 : decode b_Mod_rankAll 159 = .ok (.iinc 2 1, 3) := by decide +kernel
theorem d_Mod_rankAll_162 : decode b_Mod_rankAll 162 = .ok (.goto (-75), 3) := by decide +kernel
theorem d_Mod_rankAll_165 : decode b_Mod_rankAll 165 = .ok (.return_, 1) := by decide +kernel
theorem d_Mod_sum_0 : decode b_Mod_sum 0 = .ok (.lconst 0, 1) := by decide +kernel
theorem d_Mod_sum_1 : decode b_Mod_sum 1 = .ok (.lstore_n 2, 1) := by decide +kernel
theorem d_Mod_sum_2 : decode b_Mod_sum 2 = .ok (.iconst 0, 1) := by decide +kernel
theorem d_Mod_sum_3 : decode b_Mod_sum 3 = .ok (.istore 4, 2) := by decide +kernel
theorem d_Mod_sum_5 : decode b_Mod_sum 5 = .ok (.iload 4, 2) := by decide +kernel
theorem d_Mod_sum_7 : decode b_Mod_sum 7 = .ok (.aload_n 0, 1) := by decide +kernel
theorem d_Mod_sum_8 : decode b_Mod_sum 8 = .ok (.getfield 114, 3) := by decide +kernel
theorem d_Mod_sum_11 : decode b_Mod_sum 11 = .ok (.if_icmp .ge 130, 3) := by decide +kernel
theorem d_Mod_sum_14 : decode b_Mod_sum 14 = .ok (.aload_n 0, 1) := by decide +kernel
theorem d_Mod_sum_15 : decode b_Mod_sum 15 = .ok (.getfield 53, 3) := by decide +kernel
theorem d_Mod_sum_18 : decode b_Mod_sum 18 = .ok (.iload 4, 2) := by decide +kernel
theorem d_Mod_sum_20 : decode b_Mod_sum 20 = .ok (.iaload, 1) := by decide +kernel
theorem d_Mod_sum_21 : decode b_Mod_sum 21 = .ok (.istore 5, 2) := by decide +kernel
theorem d_Mod_sum_23 : decode b_Mod_sum 23 = .ok (.iconst 0, 1) := by decide +kernel
theorem d_Mod_sum_24 : decode b_Mod_sum 24 = .ok (.istore 6, 2) := by decide +kernel
theorem d_Mod_sum_26 : decode b_Mod_sum 26 = .ok (.iconst 0, 1) := by decide +kernel
theorem d_Mod_sum_27 : decode b_Mod_sum 27 = .ok (.istore 7, 2) := by decide +kernel
theorem d_Mod_sum_29 : decode b_Mod_sum 29 = .ok (.iconst 0, 1) := by decide +kernel
theorem d_Mod_sum_30 : decode b_Mod_sum 30 = .ok (.istore 8, 2) := by decide +kernel
theorem d_Mod_sum_32 : decode b_Mod_sum 32 = .ok (.iload 8, 2) := by decide +kernel
theorem d_Mod_sum_34 : decode b_Mod_sum 34 = .ok (.aload_n 0, 1) := by decide +kernel
theorem d_Mod_sum_35 : decode b_Mod_sum 35 = .ok (.getfield 28, 3) := by decide +kernel
theorem d_Mod_sum_38 : decode b_Mod_sum 38 = .ok (.iload 5, 2) := by decide +kernel
theorem d_Mod_sum_40 : decode b_Mod_sum 40 = .ok (.iaload, 1) := by decide +kernel
theorem d_Mod_sum_41 : decode b_Mod_sum 41 = .ok (.if_icmp .ge 62, 3) := by decide +kernel
theorem d_Mod_sum_44 : decode b_Mod_sum 44 = .ok (.aload_n 0, 1) := by decide +kernel
theorem d_Mod_sum_45 : decode b_Mod_sum 45 = .ok (.getfield 59, 3) := by decide +kernel
theorem d_Mod_sum_48 : decode b_Mod_sum 48 = .ok (.iconst 5, 1) := by decide +kernel
theorem d_Mod_sum_49 : decode b_Mod_sum 49 = .ok (.iload 5, 2) := by decide +kernel
theorem d_Mod_sum_51 : decode b_Mod_sum 51 = .ok (.imul, 1) := by decide +kernel
theorem d_Mod_sum_52 : decode b_Mod_sum 52 = .ok (.iload 8, 2) := by decide +kernel
theorem d_Mod_sum_54 : decode b_Mod_sum 54 = .ok (.iadd, 1) := by decide +kernel
theorem d_Mod_sum_55 : decode b_Mod_sum 55 = .ok (.iaload, 1) := by decide +kernel
theorem d_Mod_sum_56 : decode b_Mod_sum 56 = .ok (.ifCond .lt 10, 3) := by decide +kernel
theorem d_Mod_sum_59 : decode b_Mod_sum 59 = .ok (.iload 6, 2) := by decide +kernel
theorem d_Mod_sum_61 : decode b_Mod_sum 61 = .ok (.iconst 1, 1) := by decide +kernel
theorem d_Mod_sum_62 : decode b_Mod_sum 62 = .ok (.iadd, 1) := by decide +kernel
theorem d_Mod_sum_63 : decode b_Mod_sum 63 = .ok (.goto 5, 3) := by decide +kernel
theorem d_Mod_sum_66 : decode b_Mod_sum 66 = .ok (.iload 6, 2) := by decide +kernel
theorem d_Mod_sum_68 : decode b_Mod_sum 68 = .ok (.istore 6, 2) := by decide +kernel
theorem d_Mod_sum_70 : decode b_Mod_sum 70 = .ok (.aload_n 0, 1) := by decide +kernel
theorem d_Mod_sum_71 : decode b_Mod_sum 71 = .ok (.getfield 59, 3) := by decide +kernel
theorem d_Mod_sum_74 : decode b_Mod_sum 74 = .ok (.iconst 5, 1) := by decide +kernel
theorem d_Mod_sum_75 : decode b_Mod_sum 75 = .ok (.iload 5, 2) := by decide +kernel
theorem d_Mod_sum_77 : decode b_Mod_sum 77 = .ok (.imul, 1) := by decide +kernel
theorem d_Mod_sum_78 : decode b_Mod_sum 78 = .ok (.iload 8, 2) := by decide +kernel
theorem d_Mod_sum_80 : decode b_Mod_sum 80 = .ok (.iadd, 1) := by decide +kernel
theorem d_Mod_sum_81 : decode b_Mod_sum 81 = .ok (.iaload, 1) := by decide +kernel
theorem d_Mod_sum_82 : decode b_Mod_sum 82 = .ok (.iload_n 1, 1) := by decide +kernel
theorem d_Mod_sum_83 : decode b_Mod_sum 83 = .ok (.if_icmp .ne 10, 3) := by decide +kernel
theorem d_Mod_sum_86 : decode b_Mod_sum 86 = .ok (.iload 7, 2) := by decide +kernel
theorem d_Mod_sum_88 : decode b_Mod_sum 88 = .ok (.iconst 1, 1) := by decide +kernel
theorem d_Mod_sum_89 : decode b_Mod_sum 89 = .ok (.iadd, 1) := by decide +kernel
theorem d_Mod_sum_90 : decode b_Mod_sum 90 = .ok (.goto 5, 3) := by decide +kernel
theorem d_Mod_sum_93 : decode b_Mod_sum 93 = .ok (.iload 7, 2) := by decide +kernel
theorem d_Mod_sum_95 : decode b_Mod_sum 95 = .ok (.istore 7, 2) := by decide +kernel
theorem d_Mod_sum_97 : decode b_Mod_sum 97 = .ok (.iinc 8 1, 3) := by decide +kernel
theorem d_Mod_sum_100 : decode b_Mod_sum 100 = .ok (.goto (-68), 3) := by decide +kernel
theorem d_Mod_sum_103 : decode b_Mod_sum 103 = .ok (.iload 7, 2) := by decide +kernel
theorem d_Mod_sum_105 : decode b_Mod_sum 105 = .ok (.ifCond .le 30, 3) := by decide +kernel
theorem d_Mod_sum_108 : decode b_Mod_sum 108 = .ok (.aload_n 0, 1) := by decide +kernel
theorem d_Mod_sum_109 : decode b_Mod_sum 109 = .ok (.iload 5, 2) := by decide +kernel
theorem d_Mod_sum_111 : decode b_Mod_sum 111 = .ok (.invokevirtual 181, 3) := by decide +kernel
theorem d_Mod_sum_114 : decode b_Mod_sum 114 = .ok (.ifCond .eq 21, 3) := by decide +kernel
theorem d_Mod_sum_117 : decode b_Mod_sum 117 = .ok (.lload_n 2, 1) := by decide +kernel
theorem d_Mod_sum_118 : decode b_Mod_sum 118 = .ok (.iload 7, 2) := by decide +kernel
theorem d_Mod_sum_120 : decode b_Mod_sum 120 = .ok (.i2l, 1) := by decide +kernel
theorem d_Mod_sum_121 : decode b_Mod_sum 121 = .ok (.aload_n 0, 1) := by decide +kernel
theorem d_Mod_sum_122 : decode b_Mod_sum 122 = .ok (.getfield 66, 3) := by decide +kernel
theorem d_Mod_sum_125 : decode b_Mod_sum 125 = .ok (.iload 5, 2) := by decide +kernel
theorem d_Mod_sum_127 : decode b_Mod_sum 127 = .ok (.laload, 1) := by decide +kernel
theorem d_Mod_sum_128 : decode b_Mod_sum 128 = .ok (.iload 6, 2) := by decide +kernel
theorem d_Mod_sum_130 : decode b_Mod_sum 130 = .ok (.i2l, 1) := by decide +kernel
theorem d_Mod_sum_131 : decode b_Mod_sum 131 = .ok (.ldiv, 1) := by decide +kernel
theorem d_Mod_sum_132 : decode b_Mod_sum 132 = .ok (.lmul, 1) := by decide +kernel
theorem d_Mod_sum_133 : decode b_Mod_sum 133 = .ok (.ladd, 1) := by decide +kernel
theorem d_Mod_sum_134 : decode b_Mod_sum 134 = .ok (.lstore_n 2, 1) := by decide +kernel
theorem d_Mod_sum_135 : decode b_Mod_sum 135 = .ok (.iinc 4 1, 3) := by decide +kernel
theorem d_Mod_sum_138 : decode b_Mod_sum 138 = .ok (.goto (-133), 3) := by decide +kernel
theorem d_Mod_sum_141 : decode b_Mod_sum 141 = .ok (.lload_n 2, 1) := by decide +kernel
theorem d_Mod_sum_142 : decode b_Mod_sum 142 = .ok (.lreturn, 1) := by decide +kernel
theorem d_Mod_rank_0 : decode b_Mod_rank 0 = .ok (.aload_n 0, 1) := by decide +kernel
theorem d_Mod_rank_1 : decode b_Mod_rank 1 = .ok (.getfield 73, 3) := by decide +kernel
theorem d_Mod_rank_4 : decode b_Mod_rank 4 = .ok (.ifCond .eq 21, 3) := by decide +kernel
theorem d_Mod_rank_7 : decode b_Mod_rank 7 = .ok (.aload_n 0, 1) := by decide +kernel
theorem d_Mod_rank_8 : decode b_Mod_rank 8 = .ok (.iload_n 1, 1) := by decide +kernel
theorem d_Mod_rank_9 : decode b_Mod_rank 9 = .ok (.invokevirtual 181, 3) := by decide +kernel
theorem d_Mod_rank_12 : decode b_Mod_rank 12 = .ok (.ifCond .eq 13, 3) := by decide +kernel
theorem d_Mod_rank_15 : decode b_Mod_rank 15 = .ok (.iload_n 2, 1) := by decide +kernel
theorem d_Mod_rank_16 : decode b_Mod_rank 16 = .ok (.ifCond .lt 9, 3) := by decide +kernel
theorem d_Mod_rank_19 : decode b_Mod_rank 19 = .ok (.iload_n 2, 1) := by decide +kernel
theorem d_Mod_rank_20 : decode b_Mod_rank 20 = .ok (.bipush 12, 2) := by decide +kernel
theorem d_Mod_rank_22 : decode b_Mod_rank 22 = .ok (.if_icmp .le 5, 3) := by decide +kernel
theorem d_Mod_rank_25 : decode b_Mod_rank 25 = .ok (.lconst 0, 1) := by decide +kernel
theorem d_Mod_rank_26 : decode b_Mod_rank 26 = .ok (.lreturn, 1) := by decide +kernel
theorem d_Mod_rank_27 : decode b_Mod_rank 27 = .ok (.aload_n 0, 1) := by decide +kernel
theorem d_Mod_rank_28 : decode b_Mod_rank 28 = .ok (.iload_n 2, 1) := by decide +kernel
theorem d_Mod_rank_29 : decode b_Mod_rank 29 = .ok (.invokevirtual 184, 3) := by decide +kernel
theorem d_Mod_rank_32 : decode b_Mod_rank 32 = .ok (.aload_n 0, 1) := by decide +kernel
theorem d_Mod_rank_33 : decode b_Mod_rank 33 = .ok (.getfield 62, 3) := by decide +kernel
theorem d_Mod_rank_36 : decode b_Mod_rank 36 = .ok (.iload_n 1, 1) := by decide +kernel
theorem d_Mod_rank_37 : decode b_Mod_rank 37 = .ok (.laload, 1) := by decide +kernel
theorem d_Mod_rank_38 : decode b_Mod_rank 38 = .ok (.lreturn, 1) := by decide +kernel
theorem d_Mod_score_0 : decode b_Mod_score 0 = .ok (.iconst 0, 1) := by decide +kernel
theorem d_Mod_score_1 : decode b_Mod_score 1 = .ok (.istore 4, 2) := by decide +kernel
theorem d_Mod_score_3 : decode b_Mod_score 3 = .ok (.iconst 0, 1) := by decide +kernel
theorem d_Mod_score_4 : decode b_Mod_score 4 = .ok (.istore 5, 2) := by decide +kernel
theorem d_Mod_score_6 : decode b_Mod_score 6 = .ok (.iload 5, 2) := by decide +kernel
theorem d_Mod_score_8 : decode b_Mod_score 8 = .ok (.aload_n 0, 1) := by decide +kernel
theorem d_Mod_score_9 : decode b_Mod_score 9 = .ok (.getfield 22, 3) := by decide +kernel
theorem d_Mod_score_12 : decode b_Mod_score 12 = .ok (.iload_n 1, 1) := by decide +kernel
theorem d_Mod_score_13 : decode b_Mod_score 13 = .ok (.iaload, 1) := by decide +kernel
theorem d_Mod_score_14 : decode b_Mod_score 14 = .ok (.if_icmp .ge 46, 3) := by decide +kernel
theorem d_Mod_score_17 : decode b_Mod_score 17 = .ok (.aload_n 0, 1) := by decide +kernel
theorem d_Mod_score_18 : decode b_Mod_score 18 = .ok (.getfield 19, 3) := by decide +kernel
theorem d_Mod_score_21 : decode b_Mod_score 21 = .ok (.bipush 8, 2) := by decide +kernel
theorem d_Mod_score_23 : decode b_Mod_score 23 = .ok (.iload_n 1, 1) := by decide +kernel
theorem d_Mod_score_24 : decode b_Mod_score 24 = .ok (.imul, 1) := by decide +kernel
theorem d_Mod_score_25 : decode b_Mod_score 25 = .ok (.iload 5, 2) := by decide +kernel
theorem d_Mod_score_27 : decode b_Mod_score 27 = .ok (.iadd, 1) := by decide +kernel
theorem d_Mod_score_28 : decode b_Mod_score 28 = .ok (.iaload, 1) := by decide +kernel
theorem d_Mod_score_29 : decode b_Mod_score 29 = .ok (.istore 6, 2) := by decide +kernel
theorem d_Mod_score_31 : decode b_Mod_score 31 = .ok (.iload 6, 2) := by decide +kernel
theorem d_Mod_score_33 : decode b_Mod_score 33 = .ok (.iload_n 2, 1) := by decide +kernel
theorem d_Mod_score_34 : decode b_Mod_score 34 = .ok (.if_icmp .eq 9, 3) := by decide +kernel
theorem d_Mod_score_37 : decode b_Mod_score 37 = .ok (.iload 6, 2) := by decide +kernel
theorem d_Mod_score_39 : decode b_Mod_score 39 = .ok (.iload_n 3, 1) := by decide +kernel
theorem d_Mod_score_40 : decode b_Mod_score 40 = .ok (.if_icmp .ne 10, 3) := by decide +kernel
theorem d_Mod_score_43 : decode b_Mod_score 43 = .ok (.iload 4, 2) := by decide +kernel
theorem d_Mod_score_45 : decode b_Mod_score 45 = .ok (.iconst 1, 1) := by decide +kernel
theorem d_Mod_score_46 : decode b_Mod_score 46 = .ok (.iadd, 1) := by decide +kernel
theorem d_Mod_score_47 : decode b_Mod_score 47 = .ok (.goto 5, 3) := by decide +kernel
theorem d_Mod_score_50 : decode b_Mod_score 50 = .ok (.iload 4, 2) := by decide +kernel
theorem d_Mod_score_52 : decode b_Mod_score 52 = .ok (.istore 4, 2) := by decide +kernel
theorem d_Mod_score_54 : decode b_Mod_score 54 = .ok (.iinc 5 1, 3) := by decide +kernel
theorem d_Mod_score_57 : decode b_Mod_score 57 = .ok (.goto (-51), 3) := by decide +kernel
theorem d_Mod_score_60 : decode b_Mod_score 60 = .ok (.aload_n 0, 1) := by decide +kernel
theorem d_Mod_score_61 : decode b_Mod_score 61 = .ok (.iload_n 1, 1) := by decide +kernel
theorem d_Mod_score_62 : decode b_Mod_score 62 = .ok (.invokevirtual 181, 3) := by decide +kernel
theorem d_Mod_score_65 : decode b_Mod_score 65 = .ok (.ifCond .eq 16, 3) := by decide +kernel
theorem d_Mod_score_68 : decode b_Mod_score 68 = .ok (.iload 4, 2) := by decide +kernel
theorem d_Mod_score_70 : decode b_Mod_score 70 = .ok (.i2l, 1) := by decide +kernel
theorem d_Mod_score_71 : decode b_Mod_score 71 = .ok (.aload_n 0, 1) := by decide +kernel
theorem d_Mod_score_72 : decode b_Mod_score 72 = .ok (.getfield 62, 3) := by decide +kernel
theorem d_Mod_score_75 : decode b_Mod_score 75 = .ok (.iload_n 1, 1) := by decide +kernel
theorem d_Mod_score_76 : decode b_Mod_score 76 = .ok (.laload, 1) := by decide +kernel
theorem d_Mod_score_77 : decode b_Mod_score 77 = .ok (.lmul, 1) := by decide +kernel
theorem d_Mod_score_78 : decode b_Mod_score 78 = .ok (.goto 4, 3) := by decide +kernel
theorem d_Mod_score_81 : decode b_Mod_score 81 = .ok (.lconst 0, 1) := by decide +kernel
theorem d_Mod_score_82 : decode b_Mod_score 82 = .ok (.lreturn, 1) := by decide +kernel
theorem d_Mod_comesBefore_0 : decode b_Mod_comesBefore 0 = .ok (.aload_n 0, 1) := by decide +kernel
theorem d_Mod_comesBefore_1 : decode b_Mod_comesBefore 1 = .ok (.iload_n 1, 1) := by decide +kernel
theorem d_Mod_comesBefore_2 : decode b_Mod_comesBefore 2 = .ok (.iload_n 3, 1) := by decide +kernel
theorem d_Mod_comesBefore_3 : decode b_Mod_comesBefore 3 = .ok (.iload 4, 2) := by decide +kernel
theorem d_Mod_comesBefore_5 : decode b_Mod_comesBefore 5 = .ok (.invokevirtual 187, 3) := by decide +kernel
theorem d_Mod_comesBefore_8 : decode b_Mod_comesBefore 8 = .ok (.lstore 5, 2) := by decide +kernel
theorem d_Mod_comesBefore_10 : decode b_Mod_comesBefore 10 = .ok (.aload_n 0, 1) := by decide +kernel
theorem d_Mod_comesBefore_11 : decode b_Mod_comesBefore 11 = .ok (.iload_n 2, 1) := by decide +kernel
theorem d_Mod_comesBefore_12 : decode b_Mod_comesBefore 12 = .ok (.iload_n 3, 1) := by decide +kernel
theorem d_Mod_comesBefore_13 : decode b_Mod_comesBefore 13 = .ok (.iload 4, 2) := by decide +kernel
theorem d_Mod_comesBefore_15 : decode b_Mod_comesBefore 15 = .ok (.invokevirtual 187, 3) := by decide +kernel
theorem d_Mod_comesBefore_18 : decode b_Mod_comesBefore 18 = .ok (.lstore 7, 2) := by decide +kernel
theorem d_Mod_comesBefore_20 : decode b_Mod_comesBefore 20 = .ok (.lload 5, 2) := by decide +kernel
theorem d_Mod_comesBefore_22 : decode b_Mod_comesBefore 22 = .ok (.lload 7, 2) := by decide +kernel
theorem d_Mod_comesBefore_24 : decode b_Mod_comesBefore 24 = .ok (.lcmp, 1) := by decide +kernel
theorem d_Mod_comesBefore_25 : decode b_Mod_comesBefore 25 = .ok (.ifCond .eq 17, 3) := by decide +kernel
theorem d_Mod_comesBefore_28 : decode b_Mod_comesBefore 28 = .ok (.lload 5, 2) := by decide +kernel
theorem d_Mod_comesBefore_30 : decode b_Mod_comesBefore 30 = .ok (.lload 7, 2) := by decide +kernel
theorem d_Mod_comesBefore_32 : decode b_Mod_comesBefore 32 = .ok (.lcmp, 1) := by decide +kernel
theorem d_Mod_comesBefore_33 : decode b_Mod_comesBefore 33 = .ok (.ifCond .le 7, 3) := by decide +kernel
theorem d_Mod_comesBefore_36 : decode b_Mod_comesBefore 36 = .ok (.iconst 1, 1) := by decide +kernel
theorem d_Mod_comesBefore_37 : decode b_Mod_comesBefore 37 = .ok (.goto 4, 3) := by decide +kernel
theorem d_Mod_comesBefore_40 : decode b_Mod_comesBefore 40 = .ok (.iconst 0, 1) := by decide +kernel
theorem d_Mod_comesBefore_41 : decode b_Mod_comesBefore 41 = .ok (.ireturn, 1) := by decide +kernel
theorem d_Mod_comesBefore_42 : decode b_Mod_comesBefore 42 = .ok (.aload_n 0, 1) := by decide +kernel
theorem d_Mod_comesBefore_43 : decode b_Mod_comesBefore 43 = .ok (.getfield 7, 3) := by decide +kernel
theorem d_Mod_comesBefore_46 : decode b_Mod_comesBefore 46 = .ok (.iload_n 1, 1) := by decide +kernel
theorem d_Mod_comesBefore_47 : decode b_Mod_comesBefore 47 = .ok (.iaload, 1) := by decide +kernel
theorem d_Mod_comesBefore_48 : decode b_Mod_comesBefore 48 = .ok (.aload_n 0, 1) := by decide +kernel
theorem d_Mod_comesBefore_49 : decode b_Mod_comesBefore 49 = .ok (.getfield 7, 3) := by decide +kernel
theorem d_Mod_comesBefore_52 : decode b_Mod_comesBefore 52 = .ok (.iload_n 2, 1) := by decide +kernel
theorem d_Mod_comesBefore_53 : decode b_Mod_comesBefore 53 = .ok (.iaload, 1) := by decide +kernel
theorem d_Mod_comesBefore_54 : decode b_Mod_comesBefore 54 = .ok (.if_icmp .lt 33, 3) := by decide +kernel
theorem d_Mod_comesBefore_57 : decode b_Mod_comesBefore 57 = .ok (.aload_n 0, 1) := by decide +kernel
theorem d_Mod_comesBefore_58 : decode b_Mod_comesBefore 58 = .ok (.getfield 7, 3) := by decide +kernel
theorem d_Mod_comesBefore_61 : decode b_Mod_comesBefore 61 = .ok (.iload_n 1, 1) := by decide +kernel
theorem d_Mod_comesBefore_62 : decode b_Mod_comesBefore 62 = .ok (.iaload, 1) := by decide +kernel
theorem d_Mod_comesBefore_63 : decode b_Mod_comesBefore 63 = .ok (.aload_n 0, 1) := by decide +kernel
theorem d_Mod_comesBefore_64 : decode b_Mod_comesBefore 64 = .ok (.getfield 7, 3) := by decide +kernel
theorem d_Mod_comesBefore_67 : decode b_Mod_comesBefore 67 = .ok (.iload_n 2, 1) := by decide +kernel
theorem d_Mod_comesBefore_68 : decode b_Mod_comesBefore 68 = .ok (.iaload, 1) := by decide +kernel
theorem d_Mod_comesBefore_69 : decode b_Mod_comesBefore 69 = .ok (.if_icmp .ne 22, 3) := by decide +kernel
theorem d_Mod_comesBefore_72 : decode b_Mod_comesBefore 72 = .ok (.aload_n 0, 1) := by decide +kernel
theorem d_Mod_comesBefore_73 : decode b_Mod_comesBefore 73 = .ok (.getfield 13, 3) := by decide +kernel
theorem d_Mod_comesBefore_76 : decode b_Mod_comesBefore 76 = .ok (.iload_n 1, 1) := by decide +kernel
theorem d_Mod_comesBefore_77 : decode b_Mod_comesBefore 77 = .ok (.iaload, 1) := by decide +kernel
theorem d_Mod_comesBefore_78 : decode b_Mod_comesBefore 78 = .ok (.aload_n 0, 1) := by decide +kernel
theorem d_Mod_comesBefore_79 : decode b_Mod_comesBefore 79 = .ok (.getfield 13, 3) := by decide +kernel
theorem d_Mod_comesBefore_82 : decode b_Mod_comesBefore 82 = .ok (.iload_n 2, 1) := by decide +kernel
theorem d_Mod_comesBefore_83 : decode b_Mod_comesBefore 83 = .ok (.iaload, 1) := by decide +kernel
theorem d_Mod_comesBefore_84 : decode b_Mod_comesBefore 84 = .ok (.if_icmp .ge 7, 3) := by decide +kernel
theorem d_Mod_comesBefore_87 : decode b_Mod_comesBefore 87 = .ok (.iconst 1, 1) := by decide +kernel
theorem d_Mod_comesBefore_88 : decode b_Mod_comesBefore 88 = .ok (.goto 4, 3) := by decide +kernel
theorem d_Mod_comesBefore_91 : decode b_Mod_comesBefore 91 = .ok (.iconst 0, 1) := by decide +kernel
theorem d_Mod_comesBefore_92 : decode b_Mod_comesBefore 92 = .ok (.ireturn, 1) := by decide +kernel
theorem d_Mod_best_0 : decode b_Mod_best 0 = .ok (.aload_n 0, 1) := by decide +kernel
theorem d_Mod_best_1 : decode b_Mod_best 1 = .ok (.getfield 73, 3) := by decide +kernel
theorem d_Mod_best_4 : decode b_Mod_best 4 = .ok (.ifCond .ne 5, 3) := by decide +kernel
theorem d_Mod_best_7 : decode b_Mod_best 7 = .ok (.iconst (-1), 1) := by decide +kernel
theorem d_Mod_best_8 : decode b_Mod_best 8 = .ok (.ireturn, 1) := by decide +kernel
theorem d_Mod_best_9 : decode b_Mod_best 9 = .ok (.aload_n 0, 1) := by decide +kernel
theorem d_Mod_best_10 : decode b_Mod_best 10 = .ok (.bipush 8, 2) := by decide +kernel
theorem d_Mod_best_12 : decode b_Mod_best 12 = .ok (.invokevirtual 184, 3) := by decide +kernel
theorem d_Mod_best_15 : decode b_Mod_best 15 = .ok (.iconst 0, 1) := by decide +kernel
theorem d_Mod_best_16 : decode b_Mod_best 16 = .ok (.istore 4, 2) := by decide +kernel
theorem d_Mod_best_18 : decode b_Mod_best 18 = .ok (.iload 4, 2) := by decide +kernel
theorem d_Mod_best_20 : decode b_Mod_best 20 = .ok (.aload_n 0, 1) := by decide +kernel
theorem d_Mod_best_21 : decode b_Mod_best 21 = .ok (.getfield 114, 3) := by decide +kernel
theorem d_Mod_best_24 : decode b_Mod_best 24 = .ok (.if_icmp .ge 120, 3) := by decide +kernel
theorem d_Mod_best_27 : decode b_Mod_best 27 = .ok (.aload_n 0, 1) := by decide +kernel
theorem d_Mod_best_28 : decode b_Mod_best 28 = .ok (.getfield 53, 3) := by decide +kernel
theorem d_Mod_best_31 : decode b_Mod_best 31 = .ok (.iload 4, 2) := by decide +kernel
theorem d_Mod_best_33 : decode b_Mod_best 33 = .ok (.iaload, 1) := by decide +kernel
theorem d_Mod_best_34 : decode b_Mod_best 34 = .ok (.istore 5, 2) := by decide +kernel
theorem d_Mod_best_36 : decode b_Mod_best 36 = .ok (.aload_n 0, 1) := by decide +kernel
theorem d_Mod_best_37 : decode b_Mod_best 37 = .ok (.iload 5, 2) := by decide +kernel
theorem d_Mod_best_39 : decode b_Mod_best 39 = .ok (.iload_n 1, 1) := by decide +kernel
theorem d_Mod_best_40 : decode b_Mod_best 40 = .ok (.iload_n 2, 1) := by decide +kernel
theorem d_Mod_best_41 : decode b_Mod_best 41 = .ok (.invokevirtual 187, 3) := by decide +kernel
theorem d_Mod_best_44 : decode b_Mod_best 44 = .ok (.lconst 0, 1) := by decide +kernel
theorem d_Mod_best_45 : decode b_Mod_best 45 = .ok (.lcmp, 1) := by decide +kernel
theorem d_Mod_best_46 : decode b_Mod_best 46 = .ok (.ifCond .le 92, 3) := by decide +kernel
theorem d_Mod_best_49 : decode b_Mod_best 49 = .ok (.iconst 0, 1) := by decide +kernel
theorem d_Mod_best_50 : decode b_Mod_best 50 = .ok (.istore 6, 2) := by decide +kernel
theorem d_Mod_best_52 : decode b_Mod_best 52 = .ok (.iconst 0, 1) := by decide +kernel
theorem d_Mod_best_53 : decode b_Mod_best 53 = .ok (.istore 7, 2) := by decide +kernel
theorem d_Mod_best_55 : decode b_Mod_best 55 = .ok (.iload 7, 2) := by decide +kernel
theorem d_Mod_best_57 : decode b_Mod_best 57 = .ok (.aload_n 0, 1) := by decide +kernel
theorem d_Mod_best_58 : decode b_Mod_best 58 = .ok (.getfield 114, 3) := by decide +kernel
theorem d_Mod_best_61 : decode b_Mod_best 61 = .ok (.if_icmp .ge 68, 3) := by decide +kernel
theorem d_Mod_best_64 : decode b_Mod_best 64 = .ok (.aload_n 0, 1) := by decide +kernel
theorem d_Mod_best_65 : decode b_Mod_best 65 = .ok (.aload_n 0, 1) := by decide +kernel
theorem d_Mod_best_66 : decode b_Mod_best 66 = .ok (.getfield 53, 3) := by decide +kernel
theorem d_Mod_best_69 : decode b_Mod_best 69 = .ok (.iload 7, 2) := by decide +kernel
theorem d_Mod_best_71 : decode b_Mod_best 71 = .ok (.iaload, 1) := by decide +kernel
theorem d_Mod_best_72 : decode b_Mod_best 72 = .ok (.iload_n 1, 1) := by decide +kernel
theorem d_Mod_best_73 : decode b_Mod_best 73 = .ok (.iload_n 2, 1) := by decide +kernel
theorem d_Mod_best_74 : decode b_Mod_best 74 = .ok (.invokevirtual 187, 3) := by decide +kernel
theorem d_Mod_best_77 : decode b_Mod_best 77 = .ok (.lconst 0, 1) := by decide +kernel
theorem d_Mod_best_78 : decode b_Mod_best 78 = .ok (.lcmp, 1) := by decide +kernel
theorem d_Mod_best_79 : decode b_Mod_best 79 = .ok (.ifCond .le 7, 3) := by decide +kernel
theorem d_Mod_best_82 : decode b_Mod_best 82 = .ok (.iconst 1, 1) := by decide +kernel
theorem d_Mod_best_83 : decode b_Mod_best 83 = .ok (.goto 4, 3) := by decide +kernel
theorem d_Mod_best_86 : decode b_Mod_best 86 = .ok (.iconst 0, 1) := by decide +kernel
theorem d_Mod_best_87 : decode b_Mod_best 87 = .ok (.istore 8, 2) := by decide +kernel
theorem d_Mod_best_89 : decode b_Mod_best 89 = .ok (.iload 8, 2) := by decide +kernel
theorem d_Mod_best_91 : decode b_Mod_best 91 = .ok (.ifCond .eq 28, 3) := by decide +kernel
theorem d_Mod_best_94 : decode b_Mod_best 94 = .ok (.aload_n 0, 1) := by decide +kernel
theorem d_Mod_best_95 : decode b_Mod_best 95 = .ok (.aload_n 0, 1) := by decide +kernel
theorem d_Mod_best_96 : decode b_Mod_best 96 = .ok (.getfield 53, 3) := by decide +kernel
theorem d_Mod_best_99 : decode b_Mod_best 99 = .ok (.iload 7, 2) := by decide +kernel
theorem d_Mod_best_101 : decode b_Mod_best 101 = .ok (.iaload, 1) := by decide +kernel
theorem d_Mod_best_102 : decode b_Mod_best 102 = .ok (.iload 5, 2) := by decide +kernel
theorem d_Mod_best_104 : decode b_Mod_best 104 = .ok (.iload_n 1, 1) := by decide +kernel
theorem d_Mod_best_105 : decode b_Mod_best 105 = .ok (.iload_n 2, 1) := by decide +kernel
theorem d_Mod_best_106 : decode b_Mod_best 106 = .ok (.invokevirtual 191, 3) := by decide +kernel
theorem d_Mod_best_109 : decode b_Mod_best 109 = .ok (.ifCond .eq 10, 3) := by decide +kernel
theorem d_Mod_best_112 : decode b_Mod_best 112 = .ok (.iload 6, 2) := by decide +kernel
theorem d_Mod_best_114 : decode b_Mod_best 114 = .ok (.iconst 1, 1) := by decide +kernel
theorem d_Mod_best_115 : decode b_Mod_best 115 = .ok (.iadd, 1) := by decide +kernel
theorem d_Mod_best_116 : decode b_Mod_best 116 = .ok (.goto 5, 3) := by decide +kernel
theorem d_Mod_best_119 : decode b_Mod_best 119 = .ok (.iload 6, 2) := by decide +kernel
theorem d_Mod_best_121 : decode b_Mod_best 121 = .ok (.istore 6, 2) := by decide +kernel
theorem d_Mod_best_123 : decode b_Mod_best 123 = .ok (.iinc 7 1, 3) := by decide +kernel
theorem d_Mod_best_126 : decode b_Mod_best 126 = .ok (.goto (-71), 3) := by decide +kernel
theorem d_Mod_best_129 : decode b_Mod_best 129 = .ok (.iload 6, 2) := by decide +kernel
theorem d_Mod_best_131 : decode b_Mod_best 131 = .ok (.iload_n 3, 1) := by decide +kernel
theorem d_Mod_best_132 : decode b_Mod_best 132 = .ok (.if_icmp .ne 6, 3) := by decide +kernel
theorem d_Mod_best_135 : decode b_Mod_best 135 = .ok (.iload 5, 2) := by decide +kernel
theorem d_Mod_best_137 : decode b_Mod_best 137 = .ok (.ireturn, 1) := by decide +kernel
theorem d_Mod_best_138 : decode b_Mod_best 138 = .ok (.iinc 4 1, 3) := by decide +kernel
theorem d_Mod_best_141 : decode b_Mod_best 141 = .ok (.goto (-123), 3) := by decide +kernel
theorem d_Mod_best_144 : decode b_Mod_best 144 = .ok (.iconst (-1), 1) := by decide +kernel
theorem d_Mod_best_145 : decode b_Mod_best 145 = .ok (.ireturn, 1) := by decide +kernel
end
section
/-! specs_row -/
set_option maxHeartbeats 400000 in
set_option maxRecDepth 20000 in
theorem B_Row_add (l : Launch) {g : gG} {A : Nat → Prop} {ad : Nat → Nat} {np : Nat} {u v : gS} {k n cap : Nat} {q0 : Nat × Nat × Nat} {lo : Nat → Nat × Nat × Nat} {x : Int32} (hr : gRow np k q0 lo cap) (hn : gr u v q0 = nI n) (hc : n ≤ cap) : BdI l b_Row_add 2 R_Row 0 [.ref (ad k), .int x] g A ad np u v (fun r t => (n < cap → r = 1 ∧ t = gx (gx u v (lo n) x).1 (gx u v (lo n) x).2 q0 (nI (n + 1))) ∧ (cap ≤ n → r = 0 ∧ t = (u, v))) := by
  intro p e R s m args below meth c Q ls X hW hS hR hl hret
  have hx := X.1.1
  have hb := X.1.2.1
  have hml := X.1.2.2.1
  have hown := X.1.2.2.2.1
  have hts := X.1.2.2.2.2
  have hK := X.2.1
  have hl : lv_has ls 2 [(0, .ref (ad k)), (1, .int x)] := hl
  have hcap := hr.2.2.2.2.1
  refine lv_aload_n hx hb d_Row_add_0 rfl (lv_at hl 0 rfl) ?_
  refine gf_Row_15 (z := nI n) X hW (Nat.lt_trans (Nat.lt_succ_self _) hr.1) hr.2.1 hr.2.2.2.2.2.1 hr.2.2.2.2.2.2.1 hn d_Row_add_1 ?_
  refine lv_aload_n hx hb d_Row_add_4 rfl (lv_at hl 0 rfl) ?_
  refine gf_Row_9 X hW (Nat.lt_trans (Nat.lt_succ_self _) hr.1) hr.2.1 d_Row_add_5 ?_
  refine gy_al (n := cap) hx hb hK hW hr.1 hr.2.2.1 hr.2.2.2.1 d_Row_add_8 ?_
  refine lv_icmp_lt (tgt := 14) hx hb d_Row_add_9 (by decide) (fun h9 => ?_) (fun h9 => ?_)
  · -- 9 t
    have h9 : n < cap := (nI_ltI (a := n) (b := cap) (by omega) (by omega)).mp h9
    refine lv_aload_n hx hb d_Row_add_14 rfl (lv_at hl 0 rfl) ?_
    refine gf_Row_9 X hW (Nat.lt_trans (Nat.lt_succ_self _) hr.1) hr.2.1 d_Row_add_15 ?_
    refine lv_aload_n hx hb d_Row_add_18 rfl (lv_at hl 0 rfl) ?_
    refine gf_Row_15 (z := nI n) X hW (Nat.lt_trans (Nat.lt_succ_self _) hr.1) hr.2.1 hr.2.2.2.2.2.1 hr.2.2.2.2.2.2.1 hn d_Row_add_19 ?_
    refine lv_iload_n hx hb d_Row_add_22 rfl (lv_at hl 1 rfl) ?_
    refine gy_is (z := x) (q := lo n) hx hb hK hW hS hr.1 hr.2.2.1 (by rw [hr.2.2.2.1]; exact vp_in_nI (by omega) (by omega)) (hr.2.2.2.2.2.2.2 _ (by omega)).1 ((hr.2.2.2.2.2.2.2 _ (by omega)).2.trans (by rw [nI_clamp (by omega)])) d_Row_add_23 (fun H locs hW hS => ?_)
    have hW : gW g A ad np (gx u v (lo n) x).1 (gx u v (lo n) x).2 H := hW
    refine lv_aload_n hx hb d_Row_add_24 rfl (lv_at hl 0 rfl) ?_
    refine lv_dup hx hb d_Row_add_25 rfl ?_
    refine gf_Row_15 (z := nI n) X hW (Nat.lt_trans (Nat.lt_succ_self _) hr.1) hr.2.1 hr.2.2.2.2.2.1 hr.2.2.2.2.2.2.1 (by rw [gr_gx_ne (gRow_ne hr (by omega)) (gv_sp (hr.2.2.2.2.2.2.2 _ (by omega)).1) (gv_sp hr.2.2.2.2.2.1)]; exact hn) d_Row_add_26 ?_
    refine lv_iconst (v := 1) hx hb d_Row_add_29 (by decide) ?_
    refine lv_iadd hx hb d_Row_add_30 ?_
    rw [show (nI n) + 1 = nI (n + 1) from nI_1 n]
    refine pf_Row_15 (z := nI (n + 1)) X hW hS (Nat.lt_trans (Nat.lt_succ_self _) hr.1) hr.2.1 hr.2.2.2.2.2.1 hr.2.2.2.2.2.2.1 rfl rfl d_Row_add_31 (fun H locs hW hS => ?_)
    have hW : gW g A ad np (gx ((gx u v (lo n) x).1) ((gx u v (lo n) x).2) q0 (nI (n + 1))).1 (gx ((gx u v (lo n) x).1) ((gx u v (lo n) x).2) q0 (nI (n + 1))).2 H := hW
    refine lv_iconst (v := 1) hx hb d_Row_add_34 (by decide) ?_
    refine hret 1 ((gx ((gx u v (lo n) x).1) ((gx u v (lo n) x).2) q0 (nI (n + 1))).1, (gx ((gx u v (lo n) x).1) ((gx u v (lo n) x).2) q0 (nI (n + 1))).2) _ _ _ _ ?_ hW hS d_Row_add_35
    exact ⟨fun _ => ⟨rfl, rfl⟩, fun q => absurd q (by omega)⟩
  · -- 9 f
    have h9 : cap ≤ n := Nat.le_of_not_lt fun q => h9 ((nI_ltI (a := n) (b := cap) (by omega) (by omega)).mpr q)
    refine lv_iconst (v := 0) hx hb d_Row_add_12 (by decide) ?_
    refine hret 0 (u, v) _ _ _ _ ?_ hW hS d_Row_add_13
    exact ⟨fun q => absurd q (by omega), fun _ => ⟨rfl, rfl⟩⟩
theorem C_Row_add (l : Launch) {g : gG} {A : Nat → Prop} {ad : Nat → Nat} {np : Nat} {u v : gS} {k n cap : Nat} {q0 : Nat × Nat × Nat} {lo : Nat → Nat × Nat × Nat} {x : Int32} (hr : gRow np k q0 lo cap) (hn : gr u v q0 = nI n) (hc : n ≤ cap) : CtI l y_Row_add b_Row_add 2 .boolean 0 [.ref (ad k), .int x] g A ad np u v (fun r t => (n < cap → r = 1 ∧ t = gx (gx u v (lo n) x).1 (gx u v (lo n) x).2 q0 (nI (n + 1))) ∧ (cap ≤ n → r = 0 ∧ t = (u, v))) := mkI (by decide) rfl (Nat.le_of_ble_eq_true rfl) (fun r t h => by rcases Nat.lt_or_ge n cap with hc | hc; exact (h.1 hc).1 ▸ rfl; exact (h.2 hc).1 ▸ rfl) (B_Row_add l hr hn hc)

set_option maxHeartbeats 400000 in
set_option maxRecDepth 20000 in
theorem B_Row_holds (l : Launch) {g : gG} {A : Nat → Prop} {ad : Nat → Nat} {np : Nat} {u v : gS} {k n cap : Nat} {q0 : Nat × Nat × Nat} {lo : Nat → Nat × Nat × Nat} {f : Nat → Int32} {x : Int32} (hr : gRow np k q0 lo cap) (hn : gr u v q0 = nI n) (hc : n ≤ cap) (hf : ∀ i, i < cap → gr u v (lo i) = f i) : BdI l b_Row_holds 3 R_Row 0 [.ref (ad k), .int x] g A ad np u v (fun r t => t = (u, v) ∧ r = bI (pEq f x n)) := by
  intro p e R s m args below meth c Q ls X hW hS hR hl hret
  have hx := X.1.1
  have hb := X.1.2.1
  have hml := X.1.2.2.1
  have hown := X.1.2.2.2.1
  have hts := X.1.2.2.2.2
  have hK := X.2.1
  have hl : lv_has ls 3 [(0, .ref (ad k)), (1, .int x)] := hl
  have hcap := hr.2.2.2.2.1
  refine lv_iconst (v := 0) hx hb d_Row_holds_0 (by decide) ?_
  refine lv_istore_n hx hb d_Row_holds_1 rfl hl (by decide) rfl (fun ls hl => ?_)
  have hl : lv_has ls 3 [(2, .int 0), (0, .ref (ad k)), (1, .int x)] := hl
  have lp2 : ∀ (fuel : Nat) (i : Nat) (ls : Array Slot) (H : Heap) (locs : List Loc), (i ≤ n) → (pEq f x i = false) → n - i < fuel → lv_has ls 3 [(0, .ref (ad k)), (1, .int x), (2, .int (nI i))] → gW g A ad np u v H → va_S A s.heap H locs → W p l e R s m args below meth c H locs 0 0 Q (F0 m 2 ls []) := by
    intro fuel
    induction fuel with
    | zero => intro i ls H locs _ _ hfu; exact absurd hfu (Nat.not_lt_zero _)
    | succ fuel ih =>
      intro i ls H locs hi hp hfu hl hW hS
      refine lv_iload_n hx hb d_Row_holds_2 rfl (lv_at hl 2 rfl) ?_
      refine lv_aload_n hx hb d_Row_holds_3 rfl (lv_at hl 0 rfl) ?_
      refine gf_Row_15 (z := nI n) X hW (Nat.lt_trans (Nat.lt_succ_self _) hr.1) hr.2.1 hr.2.2.2.2.2.1 hr.2.2.2.2.2.2.1 hn d_Row_holds_4 ?_
      refine lv_icmp_ge (tgt := 28) hx hb d_Row_holds_7 (by decide) (fun h7 => ?_) (fun h7 => ?_)
      · -- 7 t
        have h7 : n ≤ i := (nI_leI (a := n) (b := i) (by omega) (by omega)).mp h7
        refine lv_iconst (v := 0) hx hb d_Row_holds_28 (by decide) ?_
        refine hret 0 (u, v) _ _ _ _ ?_ hW hS d_Row_holds_29
        exact ⟨rfl, by rw [show n = i by omega, hp]; rfl⟩
      · -- 7 f
        have h7 : i < n := Nat.lt_of_not_le fun q => h7 ((nI_leI (a := n) (b := i) (by omega) (by omega)).mpr q)
        refine lv_aload_n hx hb d_Row_holds_10 rfl (lv_at hl 0 rfl) ?_
        refine gf_Row_9 X hW (Nat.lt_trans (Nat.lt_succ_self _) hr.1) hr.2.1 d_Row_holds_11 ?_
        refine lv_iload_n hx hb d_Row_holds_14 rfl (lv_at hl 2 rfl) ?_
        refine gy_ia (z := f i) (q := lo i) hx hb hK hW hr.1 hr.2.2.1 (by rw [hr.2.2.2.1]; exact vp_in_nI (by omega) (by omega)) (hr.2.2.2.2.2.2.2 _ (by omega)).1 ((hr.2.2.2.2.2.2.2 _ (by omega)).2.trans (by rw [nI_clamp (by omega)])) (hf _ (by omega)) d_Row_holds_15 ?_
        refine lv_iload_n hx hb d_Row_holds_16 rfl (lv_at hl 1 rfl) ?_
        refine lv_icmp_ne (tgt := 22) hx hb d_Row_holds_17 (by decide) (fun h17 => ?_) (fun h17 => ?_)
        · -- 17 t
          refine lv_iinc (v := nI (i + 1)) (k := 2) hx hb d_Row_holds_22 hl rfl (nI_inc i) (by decide) rfl (fun ls hl => ?_)
          have hl : lv_has ls 3 [(2, .int (nI (i + 1))), (0, .ref (ad k)), (1, .int x)] := hl
          refine lv_goto (tgt := 2) hx hb d_Row_holds_25 (by decide) ?_
          exact ih (i + 1) _ _ _ (by omega) (pEq_step hp h17) (by omega) (lv_sub hl [1, 2, 0] rfl) hW hS
        · -- 17 f
          refine lv_iconst (v := 1) hx hb d_Row_holds_20 (by decide) ?_
          refine hret 1 (u, v) _ _ _ _ ?_ hW hS d_Row_holds_21
          exact ⟨rfl, by rw [pEq_hit h17 (show i < n by omega)]; rfl⟩
  exact lp2 _ 0 _ _ _ (Nat.zero_le _) rfl (Nat.lt_succ_self _) (lv_sub hl [1, 2, 0] rfl) hW hS
theorem C_Row_holds (l : Launch) {g : gG} {A : Nat → Prop} {ad : Nat → Nat} {np : Nat} {u v : gS} {k n cap : Nat} {q0 : Nat × Nat × Nat} {lo : Nat → Nat × Nat × Nat} {f : Nat → Int32} {x : Int32} (hr : gRow np k q0 lo cap) (hn : gr u v q0 = nI n) (hc : n ≤ cap) (hf : ∀ i, i < cap → gr u v (lo i) = f i) : CtI l y_Row_holds b_Row_holds 3 .boolean 0 [.ref (ad k), .int x] g A ad np u v (fun r t => t = (u, v) ∧ r = bI (pEq f x n)) := mkI (by decide) rfl (Nat.le_of_ble_eq_true rfl) (fun r t h => h.2 ▸ bI_nar _) (B_Row_holds l hr hn hc hf)

set_option maxHeartbeats 400000 in
set_option maxRecDepth 20000 in
theorem B_Row_at (l : Launch) {g : gG} {A : Nat → Prop} {ad : Nat → Nat} {np : Nat} {u v : gS} {k n cap : Nat} {q0 : Nat × Nat × Nat} {lo : Nat → Nat × Nat × Nat} {f : Nat → Int32} {x : Int32} (hr : gRow np k q0 lo cap) (hn : gr u v q0 = nI n) (hc : n ≤ cap) (hf : ∀ i, i < cap → gr u v (lo i) = f i) : BdI l b_Row_at 2 R_Row 0 [.ref (ad k), .int x] g A ad np u v (fun r t => t = (u, v) ∧ r = if 0 ≤ x ∧ x < nI n then f x.toNatClampNeg else -1) := by
  intro p e R s m args below meth c Q ls X hW hS hR hl hret
  have hx := X.1.1
  have hb := X.1.2.1
  have hml := X.1.2.2.1
  have hown := X.1.2.2.2.1
  have hts := X.1.2.2.2.2
  have hK := X.2.1
  have hl : lv_has ls 2 [(0, .ref (ad k)), (1, .int x)] := hl
  have hcap := hr.2.2.2.2.1
  refine lv_iconst (v := 0) hx hb d_Row_at_0 (by decide) ?_
  refine lv_iload_n hx hb d_Row_at_1 rfl (lv_at hl 1 rfl) ?_
  refine lv_icmp_gt (tgt := 22) hx hb d_Row_at_2 (by decide) (fun h2 => ?_) (fun h2 => ?_)
  · -- 2 t
    refine lv_iconst (v := (-1)) hx hb d_Row_at_22 (by decide) ?_
    refine hret (-1) (u, v) _ _ _ _ ?_ hW hS d_Row_at_23
    exact ⟨rfl, by rw [if_neg (fun q => by first | exact absurd q.1 (Int32.not_le.mpr h2) | exact absurd q.2 (Int32.not_lt.mpr h10))]⟩
  · -- 2 f
    refine lv_iload_n hx hb d_Row_at_5 rfl (lv_at hl 1 rfl) ?_
    refine lv_aload_n hx hb d_Row_at_6 rfl (lv_at hl 0 rfl) ?_
    refine gf_Row_15 (z := nI n) X hW (Nat.lt_trans (Nat.lt_succ_self _) hr.1) hr.2.1 hr.2.2.2.2.2.1 hr.2.2.2.2.2.2.1 hn d_Row_at_7 ?_
    refine lv_icmp_ge (tgt := 22) hx hb d_Row_at_10 (by decide) (fun h10 => ?_) (fun h10 => ?_)
    · -- 10 t
      refine lv_iconst (v := (-1)) hx hb d_Row_at_22 (by decide) ?_
      refine hret (-1) (u, v) _ _ _ _ ?_ hW hS d_Row_at_23
      exact ⟨rfl, by rw [if_neg (fun q => by first | exact absurd q.1 (Int32.not_le.mpr h2) | exact absurd q.2 (Int32.not_lt.mpr h10))]⟩
    · -- 10 f
      obtain ⟨j, hj, rfl⟩ : ∃ j : Nat, j < n ∧ x = nI j := by
        rcases pk_ix x (n := n) (by omega) with q | q | q
        · exact absurd (Int32.not_lt.mp h2) (fun z => absurd q (Int32.not_lt.mpr z))
        · exact absurd q h10
        · exact q
      refine lv_aload_n hx hb d_Row_at_13 rfl (lv_at hl 0 rfl) ?_
      refine gf_Row_9 X hW (Nat.lt_trans (Nat.lt_succ_self _) hr.1) hr.2.1 d_Row_at_14 ?_
      refine lv_iload_n hx hb d_Row_at_17 rfl (lv_at hl 1 rfl) ?_
      refine gy_ia (z := f j) (q := lo j) hx hb hK hW hr.1 hr.2.2.1 (by rw [hr.2.2.2.1]; exact vp_in_nI (by omega) (by omega)) (hr.2.2.2.2.2.2.2 _ (by omega)).1 ((hr.2.2.2.2.2.2.2 _ (by omega)).2.trans (by rw [nI_clamp (by omega)])) (hf _ (by omega)) d_Row_at_18 ?_
      refine lv_goto (tgt := 23) hx hb d_Row_at_19 (by decide) ?_
      refine hret (f j) (u, v) _ _ _ _ ?_ hW hS d_Row_at_23
      exact ⟨rfl, by rw [if_pos ⟨nI_pos' (by omega), nI_lt hj (by omega)⟩, nI_clamp (by omega)]⟩
theorem C_Row_at (l : Launch) {g : gG} {A : Nat → Prop} {ad : Nat → Nat} {np : Nat} {u v : gS} {k n cap : Nat} {q0 : Nat × Nat × Nat} {lo : Nat → Nat × Nat × Nat} {f : Nat → Int32} {x : Int32} (hr : gRow np k q0 lo cap) (hn : gr u v q0 = nI n) (hc : n ≤ cap) (hf : ∀ i, i < cap → gr u v (lo i) = f i) : CtI l y_Row_at b_Row_at 2 .int 0 [.ref (ad k), .int x] g A ad np u v (fun r t => t = (u, v) ∧ r = if 0 ≤ x ∧ x < nI n then f x.toNatClampNeg else -1) := mkI (by decide) rfl (Nat.le_of_ble_eq_true rfl) (fun _ _ _ => rfl) (B_Row_at l hr hn hc hf)

set_option maxHeartbeats 400000 in
set_option maxRecDepth 20000 in
theorem B_Row_sameAs (l : Launch) {g : gG} {A : Nat → Prop} {ad : Nat → Nat} {np : Nat} {u v : gS} {k n cap k2 n2 cap2 : Nat} {q0 q2 : Nat × Nat × Nat} {lo lo2 : Nat → Nat × Nat × Nat} {f f2 : Nat → Int32} (hr : gRow np k q0 lo cap) (hn : gr u v q0 = nI n) (hc : n ≤ cap) (hf : ∀ i, i < cap → gr u v (lo i) = f i) (hr2 : gRow np k2 q2 lo2 cap2) (hn2 : gr u v q2 = nI n2) (hc2 : n2 ≤ cap2) (hf2 : ∀ i, i < cap2 → gr u v (lo2 i) = f2 i) : BdI l b_Row_sameAs 3 R_Row 0 [.ref (ad k), .ref (ad k2)] g A ad np u v (fun r t => t = (u, v) ∧ r = bI (decide (n = n2) && pSm f f2 n)) := by
  intro p e R s m args below meth c Q ls X hW hS hR hl hret
  have hx := X.1.1
  have hb := X.1.2.1
  have hml := X.1.2.2.1
  have hown := X.1.2.2.2.1
  have hts := X.1.2.2.2.2
  have hK := X.2.1
  have hl : lv_has ls 3 [(0, .ref (ad k)), (1, .ref (ad k2))] := hl
  have hcap := hr.2.2.2.2.1
  have hcap2 := hr2.2.2.2.2.1
  refine lv_aload_n hx hb d_Row_sameAs_0 rfl (lv_at hl 0 rfl) ?_
  refine gf_Row_15 (z := nI n) X hW (Nat.lt_trans (Nat.lt_succ_self _) hr.1) hr.2.1 hr.2.2.2.2.2.1 hr.2.2.2.2.2.2.1 hn d_Row_sameAs_1 ?_
  refine lv_aload_n hx hb d_Row_sameAs_4 rfl (lv_at hl 1 rfl) ?_
  refine gf_Row_15 (z := nI n2) X hW (Nat.lt_trans (Nat.lt_succ_self _) hr2.1) hr2.2.1 hr2.2.2.2.2.2.1 hr2.2.2.2.2.2.2.1 hn2 d_Row_sameAs_5 ?_
  refine lv_icmp_eq (tgt := 13) hx hb d_Row_sameAs_8 (by decide) (fun h8 => ?_) (fun h8 => ?_)
  · -- 8 t
    have h8 : n = n2 := (nI_eq (a := n) (b := n2) (by omega) (by omega)).mp h8
    refine lv_iconst (v := 0) hx hb d_Row_sameAs_13 (by decide) ?_
    refine lv_istore_n hx hb d_Row_sameAs_14 rfl hl (by decide) rfl (fun ls hl => ?_)
    have hl : lv_has ls 3 [(2, .int 0), (0, .ref (ad k)), (1, .ref (ad k2))] := hl
    have lp15 : ∀ (fuel : Nat) (i : Nat) (ls : Array Slot) (H : Heap) (locs : List Loc), (i ≤ n) → (pSm f f2 i = true) → n - i < fuel → lv_has ls 3 [(0, .ref (ad k)), (1, .ref (ad k2)), (2, .int (nI i))] → gW g A ad np u v H → va_S A s.heap H locs → W p l e R s m args below meth c H locs 0 0 Q (F0 m 15 ls []) := by
      intro fuel
      induction fuel with
      | zero => intro i ls H locs _ _ hfu; exact absurd hfu (Nat.not_lt_zero _)
      | succ fuel ih =>
        intro i ls H locs hi hp hfu hl hW hS
        refine lv_iload_n hx hb d_Row_sameAs_15 rfl (lv_at hl 2 rfl) ?_
        refine lv_aload_n hx hb d_Row_sameAs_16 rfl (lv_at hl 0 rfl) ?_
        refine gf_Row_15 (z := nI n) X hW (Nat.lt_trans (Nat.lt_succ_self _) hr.1) hr.2.1 hr.2.2.2.2.2.1 hr.2.2.2.2.2.2.1 hn d_Row_sameAs_17 ?_
        refine lv_icmp_ge (tgt := 46) hx hb d_Row_sameAs_20 (by decide) (fun h20 => ?_) (fun h20 => ?_)
        · -- 20 t
          have h20 : n ≤ i := (nI_leI (a := n) (b := i) (by omega) (by omega)).mp h20
          refine lv_iconst (v := 1) hx hb d_Row_sameAs_46 (by decide) ?_
          refine hret 1 (u, v) _ _ _ _ ?_ hW hS d_Row_sameAs_47
          exact ⟨rfl, by rw [decide_eq_true h8, show n = i by omega, hp]; rfl⟩
        · -- 20 f
          have h20 : i < n := Nat.lt_of_not_le fun q => h20 ((nI_leI (a := n) (b := i) (by omega) (by omega)).mpr q)
          refine lv_aload_n hx hb d_Row_sameAs_23 rfl (lv_at hl 0 rfl) ?_
          refine gf_Row_9 X hW (Nat.lt_trans (Nat.lt_succ_self _) hr.1) hr.2.1 d_Row_sameAs_24 ?_
          refine lv_iload_n hx hb d_Row_sameAs_27 rfl (lv_at hl 2 rfl) ?_
          refine gy_ia (z := f i) (q := lo i) hx hb hK hW hr.1 hr.2.2.1 (by rw [hr.2.2.2.1]; exact vp_in_nI (by omega) (by omega)) (hr.2.2.2.2.2.2.2 _ (by omega)).1 ((hr.2.2.2.2.2.2.2 _ (by omega)).2.trans (by rw [nI_clamp (by omega)])) (hf _ (by omega)) d_Row_sameAs_28 ?_
          refine lv_aload_n hx hb d_Row_sameAs_29 rfl (lv_at hl 1 rfl) ?_
          refine gf_Row_9 X hW (Nat.lt_trans (Nat.lt_succ_self _) hr2.1) hr2.2.1 d_Row_sameAs_30 ?_
          refine lv_iload_n hx hb d_Row_sameAs_33 rfl (lv_at hl 2 rfl) ?_
          refine gy_ia (z := f2 i) (q := lo2 i) hx hb hK hW hr2.1 hr2.2.2.1 (by rw [hr2.2.2.2.1]; exact vp_in_nI (by omega) (by omega)) (hr2.2.2.2.2.2.2.2 _ (by omega)).1 ((hr2.2.2.2.2.2.2.2 _ (by omega)).2.trans (by rw [nI_clamp (by omega)])) (hf2 _ (by omega)) d_Row_sameAs_34 ?_
          refine lv_icmp_eq (tgt := 40) hx hb d_Row_sameAs_35 (by decide) (fun h35 => ?_) (fun h35 => ?_)
          · -- 35 t
            refine lv_iinc (v := nI (i + 1)) (k := 2) hx hb d_Row_sameAs_40 hl rfl (nI_inc i) (by decide) rfl (fun ls hl => ?_)
            have hl : lv_has ls 3 [(2, .int (nI (i + 1))), (0, .ref (ad k)), (1, .ref (ad k2))] := hl
            refine lv_goto (tgt := 15) hx hb d_Row_sameAs_43 (by decide) ?_
            exact ih (i + 1) _ _ _ (by omega) (pSm_step hp h35) (by omega) (lv_sub hl [1, 2, 0] rfl) hW hS
          · -- 35 f
            refine lv_iconst (v := 0) hx hb d_Row_sameAs_38 (by decide) ?_
            refine hret 0 (u, v) _ _ _ _ ?_ hW hS d_Row_sameAs_39
            exact ⟨rfl, by rw [pSm_no h35 (show i < n by omega), Bool.and_false]; rfl⟩
    exact lp15 _ 0 _ _ _ (Nat.zero_le _) rfl (Nat.lt_succ_self _) (lv_sub hl [1, 2, 0] rfl) hW hS
  · -- 8 f
    have h8 : ¬ n = n2 := fun q => h8 ((nI_eq (a := n) (b := n2) (by omega) (by omega)).mpr q)
    refine lv_iconst (v := 0) hx hb d_Row_sameAs_11 (by decide) ?_
    refine hret 0 (u, v) _ _ _ _ ?_ hW hS d_Row_sameAs_12
    exact ⟨rfl, by rw [decide_eq_false h8]; rfl⟩
theorem C_Row_sameAs (l : Launch) {g : gG} {A : Nat → Prop} {ad : Nat → Nat} {np : Nat} {u v : gS} {k n cap k2 n2 cap2 : Nat} {q0 q2 : Nat × Nat × Nat} {lo lo2 : Nat → Nat × Nat × Nat} {f f2 : Nat → Int32} (hr : gRow np k q0 lo cap) (hn : gr u v q0 = nI n) (hc : n ≤ cap) (hf : ∀ i, i < cap → gr u v (lo i) = f i) (hr2 : gRow np k2 q2 lo2 cap2) (hn2 : gr u v q2 = nI n2) (hc2 : n2 ≤ cap2) (hf2 : ∀ i, i < cap2 → gr u v (lo2 i) = f2 i) : CtI l y_Row_sameAs b_Row_sameAs 3 .boolean 0 [.ref (ad k), .ref (ad k2)] g A ad np u v (fun r t => t = (u, v) ∧ r = bI (decide (n = n2) && pSm f f2 n)) := mkI (by decide) rfl (Nat.le_of_ble_eq_true rfl) (fun r t h => h.2 ▸ bI_nar _) (B_Row_sameAs l hr hn hc hf hr2 hn2 hc2 hf2)

set_option maxHeartbeats 400000 in
set_option maxRecDepth 20000 in
theorem B_Row_cutTo (l : Launch) {g : gG} {A : Nat → Prop} {ad : Nat → Nat} {np : Nat} {u v : gS} {k n cap mm : Nat} {q0 : Nat × Nat × Nat} {lo : Nat → Nat × Nat × Nat} (hr : gRow np k q0 lo cap) (hn : gr u v q0 = nI n) (hm : mm ≤ n) (hc : n ≤ cap) : BdV l b_Row_cutTo 2 R_Row 1 [.ref (ad k), .int (nI mm)] g A ad np u v (fun t => t = gx u v q0 (nI mm)) := by
  intro p e R s m args below meth c Q ls X hW hS hR hl hret
  have hx := X.1.1
  have hb := X.1.2.1
  have hml := X.1.2.2.1
  have hown := X.1.2.2.2.1
  have hts := X.1.2.2.2.2
  have hK := X.2.1
  have hl : lv_has ls 2 [(0, .ref (ad k)), (1, .int (nI mm))] := hl
  have hcap := hr.2.2.2.2.1
  refine lv_aload_n hx hb d_Row_cutTo_0 rfl (lv_at hl 0 rfl) ?_
  refine lv_aload_n hx hb d_Row_cutTo_1 rfl (lv_at hl 0 rfl) ?_
  refine gf_Row_15 (z := nI n) X hW (Nat.lt_trans (Nat.lt_succ_self _) hr.1) hr.2.1 hr.2.2.2.2.2.1 hr.2.2.2.2.2.2.1 hn d_Row_cutTo_2 ?_
  refine lv_iload_n hx hb d_Row_cutTo_5 rfl (lv_at hl 1 rfl) ?_
  refine va_mmin hx hb (hml.trans hl.1.symm) hown (hts _ w_Row_math_19) (hts _ w_math_min_static) (hts _ w_math_init) (hts _ w_math_min_code) (Nat.le_trans (Nat.le_of_ble_eq_true rfl) hR.1) (Nat.le_trans (Nat.le_of_ble_eq_true rfl) hR.2) (Nat.zero_le _) (Nat.zero_le _) d_Row_cutTo_6 ?_
  rw [show (if (nI mm) < (nI n) then nI mm else nI n) = nI mm from (by by_cases q : mm < n; exact if_pos ((nI_ltI (by omega) (by omega)).mpr q); rw [if_neg (fun z => q ((nI_ltI (by omega) (by omega)).mp z)), show n = mm by omega])]
  refine pf_Row_15 (z := nI mm) X hW hS (Nat.lt_trans (Nat.lt_succ_self _) hr.1) hr.2.1 hr.2.2.2.2.2.1 hr.2.2.2.2.2.2.1 rfl rfl d_Row_cutTo_9 (fun H locs hW hS => ?_)
  have hW : gW g A ad np (gx u v q0 (nI mm)).1 (gx u v q0 (nI mm)).2 H := hW
  refine hret ((gx u v q0 (nI mm)).1, (gx u v q0 (nI mm)).2) _ _ _ _ ?_ hW hS d_Row_cutTo_12
  exact rfl
theorem C_Row_cutTo (l : Launch) {g : gG} {A : Nat → Prop} {ad : Nat → Nat} {np : Nat} {u v : gS} {k n cap mm : Nat} {q0 : Nat × Nat × Nat} {lo : Nat → Nat × Nat × Nat} (hr : gRow np k q0 lo cap) (hn : gr u v q0 = nI n) (hm : mm ≤ n) (hc : n ≤ cap) : CtV l y_Row_cutTo b_Row_cutTo 2 1 [.ref (ad k), .int (nI mm)] g A ad np u v (fun t => t = gx u v q0 (nI mm)) := mkV (by decide) rfl (Nat.le_of_ble_eq_true rfl) (B_Row_cutTo l hr hn hm hc)
end
section
/-! specs_leaf -/
def sBef (a : gA) (P Q1 : Nat) : Bool := if a 1 P = a 1 Q1 then decide (a 2 P < a 2 Q1) else decide (a 1 P < a 1 Q1)
theorem at_in {n j : Nat} {f : Nat → Int32} (hj : j < n) (hn : n < 1000) : (if 0 ≤ nI j ∧ nI j < nI n then f (nI j).toNatClampNeg else -1) = f j := by
  rw [if_pos ⟨nI_pos' (by omega), nI_lt hj (by omega)⟩, nI_clamp (by omega)]
theorem pCt_y {f : Nat → Int32} {x y : Int32} {n : Nat} (h : f n = x ∨ f n = y) : pCt f x y (n + 1) = pCt f x y n + 1 := if_pos h
theorem pCt_n {f : Nat → Int32} {x y : Int32} {n : Nat} (h1 : ¬ f n = x) (h2 : ¬ f n = y) : pCt f x y (n + 1) = pCt f x y n := if_neg (fun h => h.elim h1 h2)
set_option maxHeartbeats 400000 in
set_option maxRecDepth 20000 in
theorem B_PG_isWithin (l : Launch) {g : gG} {A : Nat → Prop} {ad : Nat → Nat} {np : Nat} {u v : gS} {w0 w1 w2 : Int32}  : BdI l b_PG_isWithin 3 R_PG 0 [.int w0, .int w1, .int w2] g A ad np u v (fun r t => t = (u, v) ∧ r = bI (sIn w0 w1 w2)) := by
  intro p e R s m args below meth c Q ls X hW hS hR hl hret
  have hx := X.1.1
  have hb := X.1.2.1
  have hml := X.1.2.2.1
  have hown := X.1.2.2.2.1
  have hts := X.1.2.2.2.2
  have hK := X.2.1
  have hl : lv_has ls 3 [(0, .int w0), (1, .int w1), (2, .int w2)] := hl
  refine lv_iload_n hx hb d_PG_isWithin_0 rfl (lv_at hl 1 rfl) ?_
  refine lv_iload_n hx hb d_PG_isWithin_1 rfl (lv_at hl 0 rfl) ?_
  refine lv_icmp_gt (tgt := 14) hx hb d_PG_isWithin_2 (by decide) (fun h2 => ?_) (fun h2 => ?_)
  · -- 2 t
    refine lv_iconst (v := 0) hx hb d_PG_isWithin_14 (by decide) ?_
    refine hret 0 (u, v) _ _ _ _ ?_ hW hS d_PG_isWithin_15
    first | exact ⟨rfl, by rw [sIn_f1 h2]; rfl⟩ | exact ⟨rfl, by rw [sIn_f2 h7]; rfl⟩
  · -- 2 f
    refine lv_iload_n hx hb d_PG_isWithin_5 rfl (lv_at hl 0 rfl) ?_
    refine lv_iload_n hx hb d_PG_isWithin_6 rfl (lv_at hl 2 rfl) ?_
    refine lv_icmp_gt (tgt := 14) hx hb d_PG_isWithin_7 (by decide) (fun h7 => ?_) (fun h7 => ?_)
    · -- 7 t
      refine lv_iconst (v := 0) hx hb d_PG_isWithin_14 (by decide) ?_
      refine hret 0 (u, v) _ _ _ _ ?_ hW hS d_PG_isWithin_15
      first | exact ⟨rfl, by rw [sIn_f1 h2]; rfl⟩ | exact ⟨rfl, by rw [sIn_f2 h7]; rfl⟩
    · -- 7 f
      refine lv_iconst (v := 1) hx hb d_PG_isWithin_10 (by decide) ?_
      refine lv_goto (tgt := 15) hx hb d_PG_isWithin_11 (by decide) ?_
      refine hret 1 (u, v) _ _ _ _ ?_ hW hS d_PG_isWithin_15
      exact ⟨rfl, by rw [sIn_t h2 h7]; rfl⟩
theorem C_PG_isWithin (l : Launch) {g : gG} {A : Nat → Prop} {ad : Nat → Nat} {np : Nat} {u v : gS} {w0 w1 w2 : Int32}  : CtI l y_PG_isWithin b_PG_isWithin 3 .boolean 0 [.int w0, .int w1, .int w2] g A ad np u v (fun r t => t = (u, v) ∧ r = bI (sIn w0 w1 w2)) := mkI (by decide) rfl (Nat.le_of_ble_eq_true rfl) (fun r t h => h.2 ▸ bI_nar _) (B_PG_isWithin l )

set_option maxHeartbeats 400000 in
set_option maxRecDepth 20000 in
theorem B_PG_isHost (l : Launch) {g : gG} {A : Nat → Prop} {ad : Nat → Nat} {np : Nat} {u v : gS} {w0 : Int32}  : BdI l b_PG_isHost 1 R_PG 1 [.int w0] g A ad np u v (fun r t => t = (u, v) ∧ r = bI (sIn w0 0 5)) := by
  intro p e R s m args below meth c Q ls X hW hS hR hl hret
  have hx := X.1.1
  have hb := X.1.2.1
  have hml := X.1.2.2.1
  have hown := X.1.2.2.2.1
  have hts := X.1.2.2.2.2
  have hK := X.2.1
  have hl : lv_has ls 1 [(0, .int w0)] := hl
  refine lv_iload_n hx hb d_PG_isHost_0 rfl (lv_at hl 0 rfl) ?_
  refine lv_iconst (v := 0) hx hb d_PG_isHost_1 (by decide) ?_
  refine lv_iconst (v := 5) hx hb d_PG_isHost_2 (by decide) ?_
  refine gc_iS (As := [.int w0, .int 0, .int 5]) (rest := []) X cw_PG_46 (C_PG_isWithin l (w0 := w0) (w1 := 0) (w2 := 5)) hW hS ⟨Nat.le_trans (Nat.le_of_ble_eq_true rfl) hR.1, Nat.le_trans (Nat.le_of_ble_eq_true rfl) hR.2⟩ rfl hl.1 rfl (Nat.le_of_ble_eq_true rfl) d_PG_isHost_3 ⟨Nat.zero_le _, Nat.zero_le _⟩ (fun r t H locs hp hW hS => ?_)
  obtain ⟨rfl, rfl⟩ := hp
  have hW : gW g A ad np u v H := hW
  refine hret (bI (sIn w0 0 5)) (u, v) _ _ _ _ ?_ hW hS d_PG_isHost_6
  exact ⟨rfl, rfl⟩
theorem C_PG_isHost (l : Launch) {g : gG} {A : Nat → Prop} {ad : Nat → Nat} {np : Nat} {u v : gS} {w0 : Int32}  : CtI l y_PG_isHost b_PG_isHost 1 .boolean 1 [.int w0] g A ad np u v (fun r t => t = (u, v) ∧ r = bI (sIn w0 0 5)) := mkI (by decide) rfl (Nat.le_of_ble_eq_true rfl) (fun r t h => h.2 ▸ bI_nar _) (B_PG_isHost l )

set_option maxHeartbeats 400000 in
set_option maxRecDepth 20000 in
theorem B_Web_isPage (l : Launch) {g : gG} {A : Nat → Prop} {ad : Nat → Nat} {np : Nat} {a x : gA} {o : gL} {v : gS} {w : Int32}  : BdI l b_Web_isPage 2 R_Web 0 [.ref (ad 1), .int w] g A ad np (a, x, o) v (fun r t => t = ((a, x, o), v) ∧ r = bI (sIs a w)) := by
  intro p e R s m args below meth c Q ls X hW hS hR hl hret
  have hx := X.1.1
  have hb := X.1.2.1
  have hml := X.1.2.2.1
  have hown := X.1.2.2.2.1
  have hts := X.1.2.2.2.2
  have hK := X.2.1
  have hl : lv_has ls 2 [(0, .ref (ad 1)), (1, .int w)] := hl
  refine lv_iconst (v := 0) hx hb d_Web_isPage_0 (by decide) ?_
  refine lv_iload_n hx hb d_Web_isPage_1 rfl (lv_at hl 1 rfl) ?_
  refine lv_icmp_gt (tgt := 17) hx hb d_Web_isPage_2 (by decide) (fun h2 => ?_) (fun h2 => ?_)
  · -- 2 t
    refine lv_iconst (v := 0) hx hb d_Web_isPage_17 (by decide) ?_
    refine hret 0 ((a, x, o), v) _ _ _ _ ?_ hW hS d_Web_isPage_18
    first | exact ⟨rfl, by rw [sIs_f1 h2]; rfl⟩ | exact ⟨rfl, by rw [sIs_f2 h10]; rfl⟩
  · -- 2 f
    refine lv_iload_n hx hb d_Web_isPage_5 rfl (lv_at hl 1 rfl) ?_
    refine lv_aload_n hx hb d_Web_isPage_6 rfl (lv_at hl 0 rfl) ?_
    refine gf_Web_33 (z := a 0 0) X hW  (gv_0_0_0 _) rfl rfl d_Web_isPage_7 ?_
    refine lv_icmp_ge (tgt := 17) hx hb d_Web_isPage_10 (by decide) (fun h10 => ?_) (fun h10 => ?_)
    · -- 10 t
      refine lv_iconst (v := 0) hx hb d_Web_isPage_17 (by decide) ?_
      refine hret 0 ((a, x, o), v) _ _ _ _ ?_ hW hS d_Web_isPage_18
      first | exact ⟨rfl, by rw [sIs_f1 h2]; rfl⟩ | exact ⟨rfl, by rw [sIs_f2 h10]; rfl⟩
    · -- 10 f
      refine lv_iconst (v := 1) hx hb d_Web_isPage_13 (by decide) ?_
      refine lv_goto (tgt := 18) hx hb d_Web_isPage_14 (by decide) ?_
      refine hret 1 ((a, x, o), v) _ _ _ _ ?_ hW hS d_Web_isPage_18
      exact ⟨rfl, by rw [sIs_t h2 h10]; rfl⟩
theorem C_Web_isPage (l : Launch) {g : gG} {A : Nat → Prop} {ad : Nat → Nat} {np : Nat} {a x : gA} {o : gL} {v : gS} {w : Int32}  : CtI l y_Web_isPage b_Web_isPage 2 .boolean 0 [.ref (ad 1), .int w] g A ad np (a, x, o) v (fun r t => t = ((a, x, o), v) ∧ r = bI (sIs a w)) := mkI (by decide) rfl (Nat.le_of_ble_eq_true rfl) (fun r t h => h.2 ▸ bI_nar _) (B_Web_isPage l )

set_option maxHeartbeats 400000 in
set_option maxRecDepth 20000 in
theorem B_PG_canChange (l : Launch) {g : gG} {A : Nat → Prop} {ad : Nat → Nat} {np : Nat} {a x : gA} {o : gL} {v : gS} {w : Int32}  : BdI l b_PG_canChange 2 R_PG 1 [.ref (ad 0), .int w] g A ad np (a, x, o) v (fun r t => t = ((a, x, o), v) ∧ r = bI (decide (a 0 13 = 0) && sIs a w)) := by
  intro p e R s m args below meth c Q ls X hW hS hR hl hret
  have hx := X.1.1
  have hb := X.1.2.1
  have hml := X.1.2.2.1
  have hown := X.1.2.2.2.1
  have hts := X.1.2.2.2.2
  have hK := X.2.1
  have hl : lv_has ls 2 [(0, .ref (ad 0)), (1, .int w)] := hl
  refine lv_aload_n hx hb d_PG_canChange_0 rfl (lv_at hl 0 rfl) ?_
  refine gf_PG_34 (z := a 0 13) X hW  (gv_0_0_13 _) rfl rfl d_PG_canChange_1 ?_
  refine lv_if_ne (tgt := 22) hx hb d_PG_canChange_4 (by decide) (fun h4 => ?_) (fun h4 => ?_)
  · -- 4 t
    refine lv_iconst (v := 0) hx hb d_PG_canChange_22 (by decide) ?_
    refine hret 0 ((a, x, o), v) _ _ _ _ ?_ hW hS d_PG_canChange_23
    first | exact ⟨rfl, by rw [h15, Bool.and_false]; rfl⟩ | exact ⟨rfl, by rw [decide_eq_false h4]; rfl⟩
  · -- 4 f
    refine lv_aload_n hx hb d_PG_canChange_7 rfl (lv_at hl 0 rfl) ?_
    refine gf_PG_10 X hW  d_PG_canChange_8 ?_
    refine lv_iload_n hx hb d_PG_canChange_11 rfl (lv_at hl 1 rfl) ?_
    refine gc_iV (As := [.int w]) (b := ad 1) (rest := []) X cw_PG_65 (C_Web_isPage l (w := w)) hW hS (gW_recv (ci := 1) (fs := gf1 ad) hK hW (by omega) (fun σ τ => ge_1 rfl σ τ) (r := (R_Web, F_Web, 4)) rfl) ⟨Nat.le_trans (Nat.le_of_ble_eq_true rfl) hR.1, Nat.le_trans (Nat.le_of_ble_eq_true rfl) hR.2⟩ rfl hl.1 rfl (Nat.le_of_ble_eq_true rfl) d_PG_canChange_12 ⟨Nat.zero_le _, Nat.zero_le _⟩ (fun r t H locs hp hW hS => ?_)
    obtain ⟨rfl, rfl⟩ := hp
    have hW : gW g A ad np (a, x, o) v H := hW
    refine lv_if_eq (tgt := 22) hx hb d_PG_canChange_15 (by decide) (fun h15 => ?_) (fun h15 => ?_)
    · -- 15 t
      have h15 : (sIs a w) = false := bI_0 h15
      refine lv_iconst (v := 0) hx hb d_PG_canChange_22 (by decide) ?_
      refine hret 0 ((a, x, o), v) _ _ _ _ ?_ hW hS d_PG_canChange_23
      first | exact ⟨rfl, by rw [h15, Bool.and_false]; rfl⟩ | exact ⟨rfl, by rw [decide_eq_false h4]; rfl⟩
    · -- 15 f
      have h15 : (sIs a w) = true := bI_n0 h15
      refine lv_iconst (v := 1) hx hb d_PG_canChange_18 (by decide) ?_
      refine lv_goto (tgt := 23) hx hb d_PG_canChange_19 (by decide) ?_
      refine hret 1 ((a, x, o), v) _ _ _ _ ?_ hW hS d_PG_canChange_23
      exact ⟨rfl, by rw [decide_eq_true h4, h15]; rfl⟩
theorem C_PG_canChange (l : Launch) {g : gG} {A : Nat → Prop} {ad : Nat → Nat} {np : Nat} {a x : gA} {o : gL} {v : gS} {w : Int32}  : CtI l y_PG_canChange b_PG_canChange 2 .boolean 1 [.ref (ad 0), .int w] g A ad np (a, x, o) v (fun r t => t = ((a, x, o), v) ∧ r = bI (decide (a 0 13 = 0) && sIs a w)) := mkI (by decide) rfl (Nat.le_of_ble_eq_true rfl) (fun r t h => h.2 ▸ bI_nar _) (B_PG_canChange l )

set_option maxHeartbeats 400000 in
set_option maxRecDepth 20000 in
theorem B_Host_addRule (l : Launch) {g : gG} {A : Nat → Prop} {ad : Nat → Nat} {np : Nat} {a x : gA} {o : gL} {v : gS} {hh n : Nat} {pr : Int32} {b : Bool} (hh6 : hh < 6) (hn : a 10 hh = nI n) (hn4 : n ≤ 4) : BdI l b_Host_addRule 3 R_Host 0 [.ref (ad (4 + 3 * hh)), .int pr, .int (bI b)] g A ad np (a, x, o) v (fun r t => (n < 4 → r = 1 ∧ t = ((gu (gu (gu a 8 (4 * hh + n) pr) 9 (4 * hh + n) (bI b)) 10 hh (nI (n + 1)), x, o), v)) ∧ (4 ≤ n → r = 0 ∧ t = ((a, x, o), v))) := by
  intro p e R s m args below meth c Q ls X hW hS hR hl hret
  have hx := X.1.1
  have hb := X.1.2.1
  have hml := X.1.2.2.1
  have hown := X.1.2.2.2.1
  have hts := X.1.2.2.2.2
  have hK := X.2.1
  have hl : lv_has ls 3 [(0, .ref (ad (4 + 3 * hh))), (1, .int pr), (2, .int (bI b))] := hl
  refine lv_aload_n hx hb d_Host_addRule_0 rfl (lv_at hl 0 rfl) ?_
  refine gf_Host_19 (z := nI n) X hW (by omega) (gk_h0 (by omega)) (gv_0_10 (by omega)) (gi_0_10 _) hn d_Host_addRule_1 ?_
  refine lv_iconst (v := 4) hx hb d_Host_addRule_4 (by decide) ?_
  refine lv_icmp_lt (tgt := 10) hx hb d_Host_addRule_5 (by decide) (fun h5 => ?_) (fun h5 => ?_)
  · -- 5 t
    have h5 : n < 4 := (nI_ltI (a := n) (b := 4) (by omega) (by omega)).mp h5
    refine lv_aload_n hx hb d_Host_addRule_10 rfl (lv_at hl 0 rfl) ?_
    refine gf_Host_9 X hW (by omega) (gk_h0 (by omega)) d_Host_addRule_11 ?_
    refine lv_aload_n hx hb d_Host_addRule_14 rfl (lv_at hl 0 rfl) ?_
    refine gf_Host_19 (z := nI n) X hW (by omega) (gk_h0 (by omega)) (gv_0_10 (by omega)) (gi_0_10 _) hn d_Host_addRule_15 ?_
    refine lv_iload_n hx hb d_Host_addRule_18 rfl (lv_at hl 1 rfl) ?_
    refine gy_is (z := pr) (q := (0, 8, 4 * hh + n)) hx hb hK hW hS (by omega) (gk_h1 (by omega)).1 (by rw [(gk_h1 (by omega)).2]; exact vp_in_nI (by omega) (by decide)) (gv_0_8 (by omega) (by omega)) ((gi_0_8 _ (by omega)).trans (by rw [nI_clamp (by omega)])) d_Host_addRule_19 (fun H locs hW hS => ?_)
    have hW : gW g A ad np (gu a 8 (4 * hh + n) pr, x, o) v H := hW
    refine lv_aload_n hx hb d_Host_addRule_20 rfl (lv_at hl 0 rfl) ?_
    refine gf_Host_15 X hW (by omega) (gk_h0 (by omega)) d_Host_addRule_21 ?_
    refine lv_aload_n hx hb d_Host_addRule_24 rfl (lv_at hl 0 rfl) ?_
    refine gf_Host_19 (z := nI n) X hW (by omega) (gk_h0 (by omega)) (gv_0_10 (by omega)) (gi_0_10 _) hn d_Host_addRule_25 ?_
    refine lv_iload_n hx hb d_Host_addRule_28 rfl (lv_at hl 2 rfl) ?_
    refine gy_zs (z := bI b) (q := (0, 9, 4 * hh + n)) hx hb hK hW hS (by omega) (gk_h2 (by omega)).1 (by rw [(gk_h2 (by omega)).2]; exact vp_in_nI (by omega) (by decide)) (bI_narz b) (gv_0_9 (by omega) (by omega)) ((gi_0_9 _ (by omega)).trans (by rw [nI_clamp (by omega)])) d_Host_addRule_29 (fun H locs hW hS => ?_)
    have hW : gW g A ad np (gu (gu a 8 (4 * hh + n) pr) 9 (4 * hh + n) (bI b), x, o) v H := hW
    refine lv_aload_n hx hb d_Host_addRule_30 rfl (lv_at hl 0 rfl) ?_
    refine lv_dup hx hb d_Host_addRule_31 rfl ?_
    refine gf_Host_19 (z := nI n) X hW (by omega) (gk_h0 (by omega)) (gv_0_10 (by omega)) (gi_0_10 _) hn d_Host_addRule_32 ?_
    refine lv_iconst (v := 1) hx hb d_Host_addRule_35 (by decide) ?_
    refine lv_iadd hx hb d_Host_addRule_36 ?_
    rw [show (nI n) + 1 = nI (n + 1) from nI_1 n]
    refine pf_Host_19 (z := nI (n + 1)) X hW hS (by omega) (gk_h0 (by omega)) (gv_0_10 (by omega)) (gi_0_10 _) rfl rfl d_Host_addRule_37 (fun H locs hW hS => ?_)
    have hW : gW g A ad np (gu (gu (gu a 8 (4 * hh + n) pr) 9 (4 * hh + n) (bI b)) 10 hh (nI (n + 1)), x, o) v H := hW
    refine lv_iconst (v := 1) hx hb d_Host_addRule_40 (by decide) ?_
    refine hret 1 ((gu (gu (gu a 8 (4 * hh + n) pr) 9 (4 * hh + n) (bI b)) 10 hh (nI (n + 1)), x, o), v) _ _ _ _ ?_ hW hS d_Host_addRule_41
    exact ⟨fun _ => ⟨rfl, rfl⟩, fun q => absurd q (by omega)⟩
  · -- 5 f
    have h5 : 4 ≤ n := Nat.le_of_not_lt fun q => h5 ((nI_ltI (a := n) (b := 4) (by omega) (by omega)).mpr q)
    refine lv_iconst (v := 0) hx hb d_Host_addRule_8 (by decide) ?_
    refine hret 0 ((a, x, o), v) _ _ _ _ ?_ hW hS d_Host_addRule_9
    exact ⟨fun q => absurd q (by omega), fun _ => ⟨rfl, rfl⟩⟩
theorem C_Host_addRule (l : Launch) {g : gG} {A : Nat → Prop} {ad : Nat → Nat} {np : Nat} {a x : gA} {o : gL} {v : gS} {hh n : Nat} {pr : Int32} {b : Bool} (hh6 : hh < 6) (hn : a 10 hh = nI n) (hn4 : n ≤ 4) : CtI l y_Host_addRule b_Host_addRule 3 .boolean 0 [.ref (ad (4 + 3 * hh)), .int pr, .int (bI b)] g A ad np (a, x, o) v (fun r t => (n < 4 → r = 1 ∧ t = ((gu (gu (gu a 8 (4 * hh + n) pr) 9 (4 * hh + n) (bI b)) 10 hh (nI (n + 1)), x, o), v)) ∧ (4 ≤ n → r = 0 ∧ t = ((a, x, o), v))) := mkI (by decide) rfl (Nat.le_of_ble_eq_true rfl) (fun r t h => by rcases Nat.lt_or_ge n 4 with hc | hc; exact (h.1 hc).1 ▸ rfl; exact (h.2 hc).1 ▸ rfl) (B_Host_addRule l hh6 hn hn4)

set_option maxHeartbeats 400000 in
set_option maxRecDepth 20000 in
theorem B_Host_isPrefix (l : Launch) {g : gG} {A : Nat → Prop} {ad : Nat → Nat} {np : Nat} {u v : gS} {x1 y1 : Nat} {w : Int32} (hw : w = nI x1) (hx1 : x1 ≤ 999999) (hy1 : y1 ≤ 999999) : BdI l b_Host_isPrefix 3 R_Host 0 [.int w, .int (nI y1)] g A ad np u v (fun r t => t = (u, v) ∧ r = bI (hdP y1 x1)) := by
  intro p e R s m args below meth c Q ls X hW hS hR hl hret
  have hx := X.1.1
  have hb := X.1.2.1
  have hml := X.1.2.2.1
  have hown := X.1.2.2.2.1
  have hts := X.1.2.2.2.2
  have hK := X.2.1
  subst hw
  have hl : lv_has ls 3 [(0, .int (nI x1)), (1, .int (nI y1))] := hl
  refine lv_iload_n hx hb d_Host_isPrefix_0 rfl (lv_at hl 1 rfl) ?_
  refine lv_istore_n hx hb d_Host_isPrefix_1 rfl hl (by decide) rfl (fun ls hl => ?_)
  have hl : lv_has ls 3 [(2, .int (nI y1)), (0, .int (nI x1)), (1, .int (nI y1))] := hl
  have lp2 : ∀ (fuel : Nat) (f : Nat) (y : Nat) (ls : Array Slot) (H : Heap) (locs : List Loc), (y < 10 ^ f) → (y ≤ y1) → (pfF 10 y1 x1 = pfF f y x1) → y < fuel → lv_has ls 3 [(0, .int (nI x1)), (1, .int (nI y1)), (2, .int (nI y))] → gW g A ad np u v H → va_S A s.heap H locs → W p l e R s m args below meth c H locs 0 0 Q (F0 m 2 ls []) := by
    intro fuel
    induction fuel with
    | zero => intro f y ls H locs _ _ _ hfu; exact absurd hfu (Nat.not_lt_zero _)
    | succ fuel ih =>
      intro f y ls H locs hy hyy he hfu hl hW hS
      refine lv_iload_n hx hb d_Host_isPrefix_2 rfl (lv_at hl 2 rfl) ?_
      refine lv_if_le (tgt := 21) hx hb d_Host_isPrefix_3 (by decide) (fun h3 => ?_) (fun h3 => ?_)
      · -- 3 t
        have h3 : y ≤ 0 := (nI_leI (a := y) (b := 0) (by omega) (by omega)).mp h3
        refine lv_iload_n hx hb d_Host_isPrefix_21 rfl (lv_at hl 0 rfl) ?_
        refine lv_if_ne (tgt := 29) hx hb d_Host_isPrefix_22 (by decide) (fun h22 => ?_) (fun h22 => ?_)
        · -- 22 t
          have h22 : ¬ x1 = 0 := fun q => h22 ((nI_eq (a := x1) (b := 0) (by omega) (by omega)).mpr q)
          refine lv_iconst (v := 0) hx hb d_Host_isPrefix_29 (by decide) ?_
          refine hret 0 (u, v) _ _ _ _ ?_ hW hS d_Host_isPrefix_30
          exact ⟨rfl, by unfold hdP; rw [he, show y = 0 by omega, pfF_z, decide_eq_false h22]; rfl⟩
        · -- 22 f
          have h22 : x1 = 0 := (nI_eq (a := x1) (b := 0) (by omega) (by omega)).mp h22
          refine lv_iconst (v := 1) hx hb d_Host_isPrefix_25 (by decide) ?_
          refine lv_goto (tgt := 30) hx hb d_Host_isPrefix_26 (by decide) ?_
          refine hret 1 (u, v) _ _ _ _ ?_ hW hS d_Host_isPrefix_30
          exact ⟨rfl, by unfold hdP; rw [decide_eq_true h22, Bool.or_true]; rfl⟩
      · -- 3 f
        have h3 : 0 < y := Nat.lt_of_not_le fun q => h3 ((nI_leI (a := y) (b := 0) (by omega) (by omega)).mpr q)
        refine lv_iload_n hx hb d_Host_isPrefix_6 rfl (lv_at hl 2 rfl) ?_
        refine lv_iload_n hx hb d_Host_isPrefix_7 rfl (lv_at hl 0 rfl) ?_
        refine lv_icmp_ne (tgt := 13) hx hb d_Host_isPrefix_8 (by decide) (fun h8 => ?_) (fun h8 => ?_)
        · -- 8 t
          have h8 : ¬ y = x1 := fun q => h8 ((nI_eq (a := y) (b := x1) (by omega) (by omega)).mpr q)
          refine lv_iload_n hx hb d_Host_isPrefix_13 rfl (lv_at hl 2 rfl) ?_
          refine lv_bipush (v := 10) hx hb d_Host_isPrefix_14 (by decide) ?_
          refine lv_idiv hx hb d_Host_isPrefix_16 (by decide) ?_
          rw [show (nI y) / 10 = nI (y / 10) from pk_div (d := 10) (by omega) (by decide) (by decide)]
          refine lv_istore_n hx hb d_Host_isPrefix_17 rfl hl (by decide) rfl (fun ls hl => ?_)
          have hl : lv_has ls 3 [(2, .int (nI (y / 10))), (0, .int (nI x1)), (1, .int (nI y1))] := hl
          refine lv_goto (tgt := 2) hx hb d_Host_isPrefix_18 (by decide) ?_
          obtain ⟨f', rfl⟩ := pow_ne hy h3
          exact ih f' (y / 10) _ _ _ (by rw [Nat.pow_succ] at hy; omega) (by omega) (he.trans (pfF_step h3 h8)) (by omega) (lv_sub hl [1, 2, 0] rfl) hW hS
        · -- 8 f
          have h8 : y = x1 := (nI_eq (a := y) (b := x1) (by omega) (by omega)).mp h8
          refine lv_iconst (v := 1) hx hb d_Host_isPrefix_11 (by decide) ?_
          refine hret 1 (u, v) _ _ _ _ ?_ hW hS d_Host_isPrefix_12
          obtain ⟨f', rfl⟩ := pow_ne hy h3
          exact ⟨rfl, by unfold hdP; rw [he, pfF_hit h3 h8]; rfl⟩
  exact lp2 _ 10 y1 _ _ _ (by omega) (Nat.le_refl _) rfl (Nat.lt_succ_self _) (lv_sub hl [1, 2, 0] rfl) hW hS
theorem C_Host_isPrefix (l : Launch) {g : gG} {A : Nat → Prop} {ad : Nat → Nat} {np : Nat} {u v : gS} {x1 y1 : Nat} {w : Int32} (hw : w = nI x1) (hx1 : x1 ≤ 999999) (hy1 : y1 ≤ 999999) : CtI l y_Host_isPrefix b_Host_isPrefix 3 .boolean 0 [.int w, .int (nI y1)] g A ad np u v (fun r t => t = (u, v) ∧ r = bI (hdP y1 x1)) := mkI (by decide) rfl (Nat.le_of_ble_eq_true rfl) (fun r t h => h.2 ▸ bI_nar _) (B_Host_isPrefix l hw hx1 hy1)

set_option maxHeartbeats 400000 in
set_option maxRecDepth 20000 in
theorem B_Host_allowsPath (l : Launch) {g : gG} {A : Nat → Prop} {ad : Nat → Nat} {np : Nat} {a x : gA} {o : gL} {v : gS} {hh n y1 : Nat} {pr al : Nat → Int32} (hh6 : hh < 6) (hn : a 10 hh = nI n) (hn4 : n ≤ 4) (hy1 : y1 ≤ 999999) (hpr : ∀ i, i < 4 → a 8 (4 * hh + i) = pr i) (hal : ∀ i, i < 4 → a 9 (4 * hh + i) = al i) (hpx : ∀ i, i < n → ∃ q, q ≤ 999999 ∧ pr i = nI q) : BdI l b_Host_allowsPath 6 R_Host 1 [.ref (ad (4 + 3 * hh)), .int (nI y1)] g A ad np (a, x, o) v (fun r t => t = ((a, x, o), v) ∧ r = bI (caS pr al y1 n).2) := by
  intro p e R s m args below meth c Q ls X hW hS hR hl hret
  have hx := X.1.1
  have hb := X.1.2.1
  have hml := X.1.2.2.1
  have hown := X.1.2.2.2.1
  have hts := X.1.2.2.2.2
  have hK := X.2.1
  have hl : lv_has ls 6 [(0, .ref (ad (4 + 3 * hh))), (1, .int (nI y1))] := hl
  refine lv_iconst (v := (-1)) hx hb d_Host_allowsPath_0 (by decide) ?_
  refine lv_istore_n hx hb d_Host_allowsPath_1 rfl hl (by decide) rfl (fun ls hl => ?_)
  have hl : lv_has ls 6 [(2, .int (-1)), (0, .ref (ad (4 + 3 * hh))), (1, .int (nI y1))] := hl
  refine lv_iconst (v := 1) hx hb d_Host_allowsPath_2 (by decide) ?_
  refine lv_istore_n hx hb d_Host_allowsPath_3 rfl hl (by decide) rfl (fun ls hl => ?_)
  have hl : lv_has ls 6 [(3, .int 1), (2, .int (-1)), (0, .ref (ad (4 + 3 * hh))), (1, .int (nI y1))] := hl
  refine lv_iconst (v := 0) hx hb d_Host_allowsPath_4 (by decide) ?_
  refine lv_istore hx hb d_Host_allowsPath_5 hl (by decide) rfl (fun ls hl => ?_)
  have hl : lv_has ls 6 [(4, .int 0), (3, .int 1), (2, .int (-1)), (0, .ref (ad (4 + 3 * hh))), (1, .int (nI y1))] := hl
  have lp7 : ∀ (fuel : Nat) (i : Nat) (ls : Array Slot) (H : Heap) (locs : List Loc), (i ≤ n) → n - i < fuel → lv_has ls 6 [(0, .ref (ad (4 + 3 * hh))), (1, .int (nI y1)), (2, .int ((caS pr al y1 i).1)), (3, .int (bI (caS pr al y1 i).2)), (4, .int (nI i))] → gW g A ad np (a, x, o) v H → va_S A s.heap H locs → W p l e R s m args below meth c H locs 0 0 Q (F0 m 7 ls []) := by
    intro fuel
    induction fuel with
    | zero => intro i ls H locs _ hfu; exact absurd hfu (Nat.not_lt_zero _)
    | succ fuel ih =>
      intro i ls H locs hi hfu hl hW hS
      refine lv_iload hx hb d_Host_allowsPath_7 (lv_at hl 4 rfl) ?_
      refine lv_aload_n hx hb d_Host_allowsPath_9 rfl (lv_at hl 0 rfl) ?_
      refine gf_Host_19 (z := nI n) X hW (by omega) (gk_h0 (by omega)) (gv_0_10 (by omega)) (gi_0_10 _) hn d_Host_allowsPath_10 ?_
      refine lv_icmp_ge (tgt := 78) hx hb d_Host_allowsPath_13 (by decide) (fun h13 => ?_) (fun h13 => ?_)
      · -- 13 t
        have h13 : n ≤ i := (nI_leI (a := n) (b := i) (by omega) (by omega)).mp h13
        refine lv_iload_n hx hb d_Host_allowsPath_78 rfl (lv_at hl 3 rfl) ?_
        refine hret (bI (caS pr al y1 i).2) ((a, x, o), v) _ _ _ _ ?_ hW hS d_Host_allowsPath_79
        exact ⟨rfl, by rw [show n = i by omega]⟩
      · -- 13 f
        have h13 : i < n := Nat.lt_of_not_le fun q => h13 ((nI_leI (a := n) (b := i) (by omega) (by omega)).mpr q)
        refine lv_aload_n hx hb d_Host_allowsPath_16 rfl (lv_at hl 0 rfl) ?_
        refine gf_Host_9 X hW (by omega) (gk_h0 (by omega)) d_Host_allowsPath_17 ?_
        refine lv_iload hx hb d_Host_allowsPath_20 (lv_at hl 4 rfl) ?_
        refine gy_ia (z := pr i) (q := (0, 8, 4 * hh + i)) hx hb hK hW (by omega) (gk_h1 (by omega)).1 (by rw [(gk_h1 (by omega)).2]; exact vp_in_nI (by omega) (by decide)) (gv_0_8 (by omega) (by omega)) ((gi_0_8 _ (by omega)).trans (by rw [nI_clamp (by omega)])) (hpr i (by omega)) d_Host_allowsPath_22 ?_
        refine lv_istore hx hb d_Host_allowsPath_23 hl (by decide) rfl (fun ls hl => ?_)
        have hl : lv_has ls 6 [(5, .int (pr i)), (0, .ref (ad (4 + 3 * hh))), (1, .int (nI y1)), (2, .int ((caS pr al y1 i).1)), (3, .int (bI (caS pr al y1 i).2)), (4, .int (nI i))] := hl
        obtain ⟨qx, hqx, hpi⟩ := hpx i (by omega)
        refine lv_iload hx hb d_Host_allowsPath_25 (lv_at hl 0 rfl) ?_
        refine lv_iload_n hx hb d_Host_allowsPath_27 rfl (lv_at hl 3 rfl) ?_
        refine lv_icmp_lt (tgt := 72) hx hb d_Host_allowsPath_28 (by decide) (fun h28 => ?_) (fun h28 => ?_)
        · -- 28 t
          refine lv_iinc (v := nI (i + 1)) (k := 5) hx hb d_Host_allowsPath_72 hl rfl (nI_inc i) (by decide) rfl (fun ls hl => ?_)
          have hl : lv_has ls 6 [(4, .int (nI (i + 1))), (5, .int (pr i)), (0, .ref (ad (4 + 3 * hh))), (1, .int (nI y1)), (2, .int ((caS pr al y1 i).1)), (3, .int (bI (caS pr al y1 i).2))] := hl
          refine lv_goto (tgt := 7) hx hb d_Host_allowsPath_75 (by decide) ?_
          have e9 := caS_skip (pr := pr) (al := al) (y := y1) (i := i) (by first | exact Or.inl h28 | exact Or.inr (by rw [hpi, nI_clamp (by omega)]; exact h37))
          exact ih (i + 1) _ _ _ (by omega) (by omega) (by rw [e9]; exact (lv_sub hl [2, 3, 4, 5, 0] rfl)) hW hS
        · -- 28 f
          refine lv_iload hx hb d_Host_allowsPath_31 (lv_at hl 0 rfl) ?_
          refine lv_iload_n hx hb d_Host_allowsPath_33 rfl (lv_at hl 2 rfl) ?_
          refine gc_iS (As := [.int (pr i), .int (nI y1)]) (rest := []) X cw_Host_23 (C_Host_isPrefix l (x1 := qx) (y1 := y1) hpi hqx hy1) hW hS ⟨Nat.le_trans (Nat.le_of_ble_eq_true rfl) hR.1, Nat.le_trans (Nat.le_of_ble_eq_true rfl) hR.2⟩ rfl hl.1 rfl (Nat.le_of_ble_eq_true rfl) d_Host_allowsPath_34 ⟨Nat.zero_le _, Nat.zero_le _⟩ (fun r t H locs hp hW hS => ?_)
          obtain ⟨rfl, rfl⟩ := hp
          have hW : gW g A ad np (a, x, o) v H := hW
          refine lv_if_ne (tgt := 43) hx hb d_Host_allowsPath_37 (by decide) (fun h37 => ?_) (fun h37 => ?_)
          · -- 37 t
            have h37 : (hdP y1 qx) = true := bI_n0 h37
            refine lv_aload_n hx hb d_Host_allowsPath_43 rfl (lv_at hl 1 rfl) ?_
            refine gf_Host_15 X hW (by omega) (gk_h0 (by omega)) d_Host_allowsPath_44 ?_
            refine lv_iload hx hb d_Host_allowsPath_47 (lv_at hl 5 rfl) ?_
            refine gy_za (z := al i) (q := (0, 9, 4 * hh + i)) hx hb hK hW (by omega) (gk_h2 (by omega)).1 (by rw [(gk_h2 (by omega)).2]; exact vp_in_nI (by omega) (by decide)) (gv_0_9 (by omega) (by omega)) ((gi_0_9 _ (by omega)).trans (by rw [nI_clamp (by omega)])) (hal i (by omega)) d_Host_allowsPath_49 ?_
            refine lv_if_ne (tgt := 63) hx hb d_Host_allowsPath_50 (by decide) (fun h50 => ?_) (fun h50 => ?_)
            · -- 50 t
              refine lv_iconst (v := 1) hx hb d_Host_allowsPath_63 (by decide) ?_
              refine lv_goto (tgt := 68) hx hb d_Host_allowsPath_64 (by decide) ?_
              refine lv_istore_n hx hb d_Host_allowsPath_68 rfl hl (by decide) rfl (fun ls hl => ?_)
              have hl : lv_has ls 6 [(3, .int 1), (5, .int (pr i)), (0, .ref (ad (4 + 3 * hh))), (1, .int (nI y1)), (2, .int ((caS pr al y1 i).1)), (4, .int (nI i))] := hl
              refine lv_iload hx hb d_Host_allowsPath_69 (lv_at hl 1 rfl) ?_
              refine lv_istore_n hx hb d_Host_allowsPath_71 rfl hl (by decide) rfl (fun ls hl => ?_)
              have hl : lv_has ls 6 [(2, .int (pr i)), (3, .int 1), (5, .int (pr i)), (0, .ref (ad (4 + 3 * hh))), (1, .int (nI y1)), (4, .int (nI i))] := hl
              refine lv_iinc (v := nI (i + 1)) (k := 5) hx hb d_Host_allowsPath_72 hl rfl (nI_inc i) (by decide) rfl (fun ls hl => ?_)
              have hl : lv_has ls 6 [(4, .int (nI (i + 1))), (2, .int (pr i)), (3, .int 1), (5, .int (pr i)), (0, .ref (ad (4 + 3 * hh))), (1, .int (nI y1))] := hl
              refine lv_goto (tgt := 7) hx hb d_Host_allowsPath_75 (by decide) ?_
              have e9 : caS pr al y1 (i + 1) = (pr i, true) := caS_take h28 (by rw [hpi, nI_clamp (by omega)]; exact h37) (by first | (simp [h50, h56, h60]; done) | (simp [h50, h56]; done) | (simp [h50]; done))
              exact ih (i + 1) _ _ _ (by omega) (by omega) (by rw [e9]; exact (lv_sub hl [4, 5, 1, 2, 0] rfl)) hW hS
            · -- 50 f
              refine lv_iload hx hb d_Host_allowsPath_53 (lv_at hl 0 rfl) ?_
              refine lv_iload_n hx hb d_Host_allowsPath_55 rfl (lv_at hl 3 rfl) ?_
              refine lv_icmp_ne (tgt := 67) hx hb d_Host_allowsPath_56 (by decide) (fun h56 => ?_) (fun h56 => ?_)
              · -- 56 t
                refine lv_iconst (v := 0) hx hb d_Host_allowsPath_67 (by decide) ?_
                refine lv_istore_n hx hb d_Host_allowsPath_68 rfl hl (by decide) rfl (fun ls hl => ?_)
                have hl : lv_has ls 6 [(3, .int 0), (5, .int (pr i)), (0, .ref (ad (4 + 3 * hh))), (1, .int (nI y1)), (2, .int ((caS pr al y1 i).1)), (4, .int (nI i))] := hl
                refine lv_iload hx hb d_Host_allowsPath_69 (lv_at hl 1 rfl) ?_
                refine lv_istore_n hx hb d_Host_allowsPath_71 rfl hl (by decide) rfl (fun ls hl => ?_)
                have hl : lv_has ls 6 [(2, .int (pr i)), (3, .int 0), (5, .int (pr i)), (0, .ref (ad (4 + 3 * hh))), (1, .int (nI y1)), (4, .int (nI i))] := hl
                refine lv_iinc (v := nI (i + 1)) (k := 5) hx hb d_Host_allowsPath_72 hl rfl (nI_inc i) (by decide) rfl (fun ls hl => ?_)
                have hl : lv_has ls 6 [(4, .int (nI (i + 1))), (2, .int (pr i)), (3, .int 0), (5, .int (pr i)), (0, .ref (ad (4 + 3 * hh))), (1, .int (nI y1))] := hl
                refine lv_goto (tgt := 7) hx hb d_Host_allowsPath_75 (by decide) ?_
                have e9 : caS pr al y1 (i + 1) = (pr i, false) := caS_take h28 (by rw [hpi, nI_clamp (by omega)]; exact h37) (by first | (simp [h50, h56, h60]; done) | (simp [h50, h56]; done) | (simp [h50]; done))
                exact ih (i + 1) _ _ _ (by omega) (by omega) (by rw [e9]; exact (lv_sub hl [4, 5, 1, 2, 0] rfl)) hW hS
              · -- 56 f
                refine lv_iload_n hx hb d_Host_allowsPath_59 rfl (lv_at hl 4 rfl) ?_
                refine lv_if_eq (tgt := 67) hx hb d_Host_allowsPath_60 (by decide) (fun h60 => ?_) (fun h60 => ?_)
                · -- 60 t
                  have h60 : (caS pr al y1 i).2 = false := bI_0 h60
                  refine lv_iconst (v := 0) hx hb d_Host_allowsPath_67 (by decide) ?_
                  refine lv_istore_n hx hb d_Host_allowsPath_68 rfl hl (by decide) rfl (fun ls hl => ?_)
                  have hl : lv_has ls 6 [(3, .int 0), (5, .int (pr i)), (0, .ref (ad (4 + 3 * hh))), (1, .int (nI y1)), (2, .int ((caS pr al y1 i).1)), (4, .int (nI i))] := hl
                  refine lv_iload hx hb d_Host_allowsPath_69 (lv_at hl 1 rfl) ?_
                  refine lv_istore_n hx hb d_Host_allowsPath_71 rfl hl (by decide) rfl (fun ls hl => ?_)
                  have hl : lv_has ls 6 [(2, .int (pr i)), (3, .int 0), (5, .int (pr i)), (0, .ref (ad (4 + 3 * hh))), (1, .int (nI y1)), (4, .int (nI i))] := hl
                  refine lv_iinc (v := nI (i + 1)) (k := 5) hx hb d_Host_allowsPath_72 hl rfl (nI_inc i) (by decide) rfl (fun ls hl => ?_)
                  have hl : lv_has ls 6 [(4, .int (nI (i + 1))), (2, .int (pr i)), (3, .int 0), (5, .int (pr i)), (0, .ref (ad (4 + 3 * hh))), (1, .int (nI y1))] := hl
                  refine lv_goto (tgt := 7) hx hb d_Host_allowsPath_75 (by decide) ?_
                  have e9 : caS pr al y1 (i + 1) = (pr i, false) := caS_take h28 (by rw [hpi, nI_clamp (by omega)]; exact h37) (by first | (simp [h50, h56, h60]; done) | (simp [h50, h56]; done) | (simp [h50]; done))
                  exact ih (i + 1) _ _ _ (by omega) (by omega) (by rw [e9]; exact (lv_sub hl [4, 5, 1, 2, 0] rfl)) hW hS
                · -- 60 f
                  have h60 : (caS pr al y1 i).2 = true := bI_n0 h60
                  refine lv_iconst (v := 1) hx hb d_Host_allowsPath_63 (by decide) ?_
                  refine lv_goto (tgt := 68) hx hb d_Host_allowsPath_64 (by decide) ?_
                  refine lv_istore_n hx hb d_Host_allowsPath_68 rfl hl (by decide) rfl (fun ls hl => ?_)
                  have hl : lv_has ls 6 [(3, .int 1), (5, .int (pr i)), (0, .ref (ad (4 + 3 * hh))), (1, .int (nI y1)), (2, .int ((caS pr al y1 i).1)), (4, .int (nI i))] := hl
                  refine lv_iload hx hb d_Host_allowsPath_69 (lv_at hl 1 rfl) ?_
                  refine lv_istore_n hx hb d_Host_allowsPath_71 rfl hl (by decide) rfl (fun ls hl => ?_)
                  have hl : lv_has ls 6 [(2, .int (pr i)), (3, .int 1), (5, .int (pr i)), (0, .ref (ad (4 + 3 * hh))), (1, .int (nI y1)), (4, .int (nI i))] := hl
                  refine lv_iinc (v := nI (i + 1)) (k := 5) hx hb d_Host_allowsPath_72 hl rfl (nI_inc i) (by decide) rfl (fun ls hl => ?_)
                  have hl : lv_has ls 6 [(4, .int (nI (i + 1))), (2, .int (pr i)), (3, .int 1), (5, .int (pr i)), (0, .ref (ad (4 + 3 * hh))), (1, .int (nI y1))] := hl
                  refine lv_goto (tgt := 7) hx hb d_Host_allowsPath_75 (by decide) ?_
                  have e9 : caS pr al y1 (i + 1) = (pr i, true) := caS_take h28 (by rw [hpi, nI_clamp (by omega)]; exact h37) (by first | (simp [h50, h56, h60]; done) | (simp [h50, h56]; done) | (simp [h50]; done))
                  exact ih (i + 1) _ _ _ (by omega) (by omega) (by rw [e9]; exact (lv_sub hl [4, 5, 1, 2, 0] rfl)) hW hS
          · -- 37 f
            have h37 : (hdP y1 qx) = false := bI_0 h37
            refine lv_goto (tgt := 72) hx hb d_Host_allowsPath_40 (by decide) ?_
            refine lv_iinc (v := nI (i + 1)) (k := 5) hx hb d_Host_allowsPath_72 hl rfl (nI_inc i) (by decide) rfl (fun ls hl => ?_)
            have hl : lv_has ls 6 [(4, .int (nI (i + 1))), (5, .int (pr i)), (0, .ref (ad (4 + 3 * hh))), (1, .int (nI y1)), (2, .int ((caS pr al y1 i).1)), (3, .int (bI (caS pr al y1 i).2))] := hl
            refine lv_goto (tgt := 7) hx hb d_Host_allowsPath_75 (by decide) ?_
            have e9 := caS_skip (pr := pr) (al := al) (y := y1) (i := i) (by first | exact Or.inl h28 | exact Or.inr (by rw [hpi, nI_clamp (by omega)]; exact h37))
            exact ih (i + 1) _ _ _ (by omega) (by omega) (by rw [e9]; exact (lv_sub hl [2, 3, 4, 5, 0] rfl)) hW hS
  exact lp7 _ 0 _ _ _ (Nat.zero_le _) (Nat.lt_succ_self _) (lv_sub hl [3, 4, 2, 1, 0] rfl) hW hS
theorem C_Host_allowsPath (l : Launch) {g : gG} {A : Nat → Prop} {ad : Nat → Nat} {np : Nat} {a x : gA} {o : gL} {v : gS} {hh n y1 : Nat} {pr al : Nat → Int32} (hh6 : hh < 6) (hn : a 10 hh = nI n) (hn4 : n ≤ 4) (hy1 : y1 ≤ 999999) (hpr : ∀ i, i < 4 → a 8 (4 * hh + i) = pr i) (hal : ∀ i, i < 4 → a 9 (4 * hh + i) = al i) (hpx : ∀ i, i < n → ∃ q, q ≤ 999999 ∧ pr i = nI q) : CtI l y_Host_allowsPath b_Host_allowsPath 6 .boolean 1 [.ref (ad (4 + 3 * hh)), .int (nI y1)] g A ad np (a, x, o) v (fun r t => t = ((a, x, o), v) ∧ r = bI (caS pr al y1 n).2) := mkI (by decide) rfl (Nat.le_of_ble_eq_true rfl) (fun r t h => h.2 ▸ bI_nar _) (B_Host_allowsPath l hh6 hn hn4 hy1 hpr hal hpx)

set_option maxHeartbeats 400000 in
set_option maxRecDepth 20000 in
theorem B_Web_isAllowed (l : Launch) {g : gG} {A : Nat → Prop} {ad : Nat → Nat} {np : Nat} {a x : gA} {o : gL} {v : gS} {P : Nat} (hw : WFw np a) (hP : P < np) : BdI l b_Web_isAllowed 2 R_Web 2 [.ref (ad 1), .int (nI P)] g A ad np (a, x, o) v (fun r t => t = ((a, x, o), v) ∧ r = bI (sAlw a P)) := by
  intro p e R s m args below meth c Q ls X hW hS hR hl hret
  have hx := X.1.1
  have hb := X.1.2.1
  have hml := X.1.2.2.1
  have hown := X.1.2.2.2.1
  have hts := X.1.2.2.2.2
  have hK := X.2.1
  have hl : lv_has ls 2 [(0, .ref (ad 1)), (1, .int (nI P))] := hl
  have hnp := hw.1
  obtain ⟨⟨hh, hh6, h1⟩, ⟨yy, hy1, hy2, h2⟩, -⟩ := hw.2.2.1 P hP
  obtain ⟨rc, hrc, h3, h4⟩ := hw.2.2.2.1 hh hh6
  refine lv_aload_n hx hb d_Web_isAllowed_0 rfl (lv_at hl 0 rfl) ?_
  refine gf_Web_19 X hW  d_Web_isAllowed_1 ?_
  refine lv_aload_n hx hb d_Web_isAllowed_4 rfl (lv_at hl 0 rfl) ?_
  refine gf_Web_11 X hW  d_Web_isAllowed_5 ?_
  refine lv_iload_n hx hb d_Web_isAllowed_8 rfl (lv_at hl 1 rfl) ?_
  refine gy_aP (i := P) hx hb hK hW (by omega) hnp rfl d_Web_isAllowed_9 ?_
  refine gf_Web_53 (z := nI hh) X hW (by unfold gp; omega) (gk_p0 P) (gv_0_1 (by omega)) (gi_0_1 _) h1 d_Web_isAllowed_10 ?_
  refine gy_aH (i := hh) hx hb hK hW (by omega) rfl d_Web_isAllowed_13 ?_
  refine lv_aload_n hx hb d_Web_isAllowed_14 rfl (lv_at hl 0 rfl) ?_
  refine gf_Web_11 X hW  d_Web_isAllowed_15 ?_
  refine lv_iload_n hx hb d_Web_isAllowed_18 rfl (lv_at hl 1 rfl) ?_
  refine gy_aP (i := P) hx hb hK hW (by omega) hnp rfl d_Web_isAllowed_19 ?_
  refine gf_Web_56 (z := nI yy) X hW (by unfold gp; omega) (gk_p0 P) (gv_0_2 (by omega)) (gi_0_2 _) h2 d_Web_isAllowed_20 ?_
  refine gc_iV (As := [.int (nI yy)]) (b := ad (4 + 3 * hh)) (rest := []) X cw_Web_59 (C_Host_allowsPath l (hh := hh) (n := rc) (y1 := yy) hh6 h3 hrc hy2 (fun i _ => rfl) (fun i _ => rfl) h4) hW hS (gW_recv (ci := 2) (fs := gf2 ad (4 + 3 * hh)) hK hW (by omega) (fun σ τ => ge_2 (gk_h0 (by omega)) σ τ) (r := (R_Host, F_Host, 3)) rfl) ⟨Nat.le_trans (Nat.le_of_ble_eq_true rfl) hR.1, Nat.le_trans (Nat.le_of_ble_eq_true rfl) hR.2⟩ rfl hl.1 rfl (Nat.le_of_ble_eq_true rfl) d_Web_isAllowed_23 ⟨Nat.zero_le _, Nat.zero_le _⟩ (fun r t H locs hp hW hS => ?_)
  obtain ⟨rfl, hr9⟩ := hp
  rw [← sAlw_ca (np := np) h1 hh6 h2 hy2 h3 hrc h4] at hr9
  subst hr9
  have hW : gW g A ad np (a, x, o) v H := hW
  refine hret (bI (sAlw a P)) ((a, x, o), v) _ _ _ _ ?_ hW hS d_Web_isAllowed_26
  exact ⟨rfl, rfl⟩
theorem C_Web_isAllowed (l : Launch) {g : gG} {A : Nat → Prop} {ad : Nat → Nat} {np : Nat} {a x : gA} {o : gL} {v : gS} {P : Nat} (hw : WFw np a) (hP : P < np) : CtI l y_Web_isAllowed b_Web_isAllowed 2 .boolean 2 [.ref (ad 1), .int (nI P)] g A ad np (a, x, o) v (fun r t => t = ((a, x, o), v) ∧ r = bI (sAlw a P)) := mkI (by decide) rfl (Nat.le_of_ble_eq_true rfl) (fun r t h => h.2 ▸ bI_nar _) (B_Web_isAllowed l hw hP)

set_option maxHeartbeats 400000 in
set_option maxRecDepth 20000 in
theorem B_Web_isTaken (l : Launch) {g : gG} {A : Nat → Prop} {ad : Nat → Nat} {np : Nat} {a x : gA} {o : gL} {v : gS} {w1 w2 : Int32} (hw : WFw np a) : BdI l b_Web_isTaken 4 R_Web 0 [.ref (ad 1), .int w1, .int w2] g A ad np (a, x, o) v (fun r t => t = ((a, x, o), v) ∧ r = bI (sDup a w1 w2 np)) := by
  intro p e R s m args below meth c Q ls X hW hS hR hl hret
  have hx := X.1.1
  have hb := X.1.2.1
  have hml := X.1.2.2.1
  have hown := X.1.2.2.2.1
  have hts := X.1.2.2.2.2
  have hK := X.2.1
  have hl : lv_has ls 4 [(0, .ref (ad 1)), (1, .int w1), (2, .int w2)] := hl
  have hnp := hw.1
  have hpc := hw.2.1
  refine lv_iconst (v := 0) hx hb d_Web_isTaken_0 (by decide) ?_
  refine lv_istore_n hx hb d_Web_isTaken_1 rfl hl (by decide) rfl (fun ls hl => ?_)
  have hl : lv_has ls 4 [(3, .int 0), (0, .ref (ad 1)), (1, .int w1), (2, .int w2)] := hl
  have lp2 : ∀ (fuel : Nat) (i : Nat) (ls : Array Slot) (H : Heap) (locs : List Loc), (i ≤ np) → (sDup a w1 w2 i = false) → np - i < fuel → lv_has ls 4 [(0, .ref (ad 1)), (1, .int w1), (2, .int w2), (3, .int (nI i))] → gW g A ad np (a, x, o) v H → va_S A s.heap H locs → W p l e R s m args below meth c H locs 0 0 Q (F0 m 2 ls []) := by
    intro fuel
    induction fuel with
    | zero => intro i ls H locs _ _ hfu; exact absurd hfu (Nat.not_lt_zero _)
    | succ fuel ih =>
      intro i ls H locs hi hd hfu hl hW hS
      refine lv_iload_n hx hb d_Web_isTaken_2 rfl (lv_at hl 3 rfl) ?_
      refine lv_aload_n hx hb d_Web_isTaken_3 rfl (lv_at hl 0 rfl) ?_
      refine gf_Web_33 (z := nI np) X hW  (gv_0_0_0 _) rfl hpc d_Web_isTaken_4 ?_
      refine lv_icmp_ge (tgt := 44) hx hb d_Web_isTaken_7 (by decide) (fun h7 => ?_) (fun h7 => ?_)
      · -- 7 t
        have h7 : np ≤ i := (nI_leI (a := np) (b := i) (by omega) (by omega)).mp h7
        refine lv_iconst (v := 0) hx hb d_Web_isTaken_44 (by decide) ?_
        refine hret 0 ((a, x, o), v) _ _ _ _ ?_ hW hS d_Web_isTaken_45
        exact ⟨rfl, by rw [show np = i by omega, hd]; rfl⟩
      · -- 7 f
        have h7 : i < np := Nat.lt_of_not_le fun q => h7 ((nI_leI (a := np) (b := i) (by omega) (by omega)).mpr q)
        refine lv_aload_n hx hb d_Web_isTaken_10 rfl (lv_at hl 0 rfl) ?_
        refine gf_Web_11 X hW  d_Web_isTaken_11 ?_
        refine lv_iload_n hx hb d_Web_isTaken_14 rfl (lv_at hl 3 rfl) ?_
        refine gy_aP (i := i) hx hb hK hW (by omega) hnp rfl d_Web_isTaken_15 ?_
        refine gf_Web_53 (z := a 1 i) X hW (by unfold gp; omega) (gk_p0 i) (gv_0_1 (by omega)) (gi_0_1 _) rfl d_Web_isTaken_16 ?_
        refine lv_iload_n hx hb d_Web_isTaken_19 rfl (lv_at hl 1 rfl) ?_
        refine lv_icmp_ne (tgt := 38) hx hb d_Web_isTaken_20 (by decide) (fun h20 => ?_) (fun h20 => ?_)
        · -- 20 t
          refine lv_iinc (v := nI (i + 1)) (k := 3) hx hb d_Web_isTaken_38 hl rfl (nI_inc i) (by decide) rfl (fun ls hl => ?_)
          have hl : lv_has ls 4 [(3, .int (nI (i + 1))), (0, .ref (ad 1)), (1, .int w1), (2, .int w2)] := hl
          refine lv_goto (tgt := 2) hx hb d_Web_isTaken_41 (by decide) ?_
          exact ih (i + 1) _ _ _ (by omega) (sDup_step hd (fun q => by first | exact h20 q.1 | exact h33 q.2)) (by omega) (lv_sub hl [1, 2, 3, 0] rfl) hW hS
        · -- 20 f
          refine lv_aload_n hx hb d_Web_isTaken_23 rfl (lv_at hl 0 rfl) ?_
          refine gf_Web_11 X hW  d_Web_isTaken_24 ?_
          refine lv_iload_n hx hb d_Web_isTaken_27 rfl (lv_at hl 3 rfl) ?_
          refine gy_aP (i := i) hx hb hK hW (by omega) hnp rfl d_Web_isTaken_28 ?_
          refine gf_Web_56 (z := a 2 i) X hW (by unfold gp; omega) (gk_p0 i) (gv_0_2 (by omega)) (gi_0_2 _) rfl d_Web_isTaken_29 ?_
          refine lv_iload_n hx hb d_Web_isTaken_32 rfl (lv_at hl 2 rfl) ?_
          refine lv_icmp_ne (tgt := 38) hx hb d_Web_isTaken_33 (by decide) (fun h33 => ?_) (fun h33 => ?_)
          · -- 33 t
            refine lv_iinc (v := nI (i + 1)) (k := 3) hx hb d_Web_isTaken_38 hl rfl (nI_inc i) (by decide) rfl (fun ls hl => ?_)
            have hl : lv_has ls 4 [(3, .int (nI (i + 1))), (0, .ref (ad 1)), (1, .int w1), (2, .int w2)] := hl
            refine lv_goto (tgt := 2) hx hb d_Web_isTaken_41 (by decide) ?_
            exact ih (i + 1) _ _ _ (by omega) (sDup_step hd (fun q => by first | exact h20 q.1 | exact h33 q.2)) (by omega) (lv_sub hl [1, 2, 3, 0] rfl) hW hS
          · -- 33 f
            refine lv_iconst (v := 1) hx hb d_Web_isTaken_36 (by decide) ?_
            refine hret 1 ((a, x, o), v) _ _ _ _ ?_ hW hS d_Web_isTaken_37
            exact ⟨rfl, by rw [sDup_hit h20 h33 (show i < np by omega)]; rfl⟩
  exact lp2 _ 0 _ _ _ (Nat.zero_le _) rfl (Nat.lt_succ_self _) (lv_sub hl [1, 2, 3, 0] rfl) hW hS
theorem C_Web_isTaken (l : Launch) {g : gG} {A : Nat → Prop} {ad : Nat → Nat} {np : Nat} {a x : gA} {o : gL} {v : gS} {w1 w2 : Int32} (hw : WFw np a) : CtI l y_Web_isTaken b_Web_isTaken 4 .boolean 0 [.ref (ad 1), .int w1, .int w2] g A ad np (a, x, o) v (fun r t => t = ((a, x, o), v) ∧ r = bI (sDup a w1 w2 np)) := mkI (by decide) rfl (Nat.le_of_ble_eq_true rfl) (fun r t h => h.2 ▸ bI_nar _) (B_Web_isTaken l hw)

set_option maxHeartbeats 400000 in
set_option maxRecDepth 20000 in
theorem B_Page_comesBefore (l : Launch) {g : gG} {A : Nat → Prop} {ad : Nat → Nat} {np : Nat} {a x : gA} {o : gL} {v : gS} {P Q1 : Nat} (hP : P < np) (hQ : Q1 < np) : BdI l b_Page_comesBefore 2 R_Page 0 [.ref (ad (gp P)), .ref (ad (gp Q1))] g A ad np (a, x, o) v (fun r t => t = ((a, x, o), v) ∧ r = bI (sBef a P Q1)) := by
  intro p e R s m args below meth c Q ls X hW hS hR hl hret
  have hx := X.1.1
  have hb := X.1.2.1
  have hml := X.1.2.2.1
  have hown := X.1.2.2.2.1
  have hts := X.1.2.2.2.2
  have hK := X.2.1
  have hl : lv_has ls 2 [(0, .ref (ad (gp P))), (1, .ref (ad (gp Q1)))] := hl
  refine lv_aload_n hx hb d_Page_comesBefore_0 rfl (lv_at hl 0 rfl) ?_
  refine gf_Page_9 (z := a 1 P) X hW (by unfold gp; omega) (gk_p0 P) (gv_0_1 (by omega)) (gi_0_1 _) rfl d_Page_comesBefore_1 ?_
  refine lv_aload_n hx hb d_Page_comesBefore_4 rfl (lv_at hl 1 rfl) ?_
  refine gf_Page_9 (z := a 1 Q1) X hW (by unfold gp; omega) (gk_p0 Q1) (gv_0_1 (by omega)) (gi_0_1 _) rfl d_Page_comesBefore_5 ?_
  refine lv_icmp_eq (tgt := 30) hx hb d_Page_comesBefore_8 (by decide) (fun h8 => ?_) (fun h8 => ?_)
  · -- 8 t
    refine lv_aload_n hx hb d_Page_comesBefore_30 rfl (lv_at hl 0 rfl) ?_
    refine gf_Page_15 (z := a 2 P) X hW (by unfold gp; omega) (gk_p0 P) (gv_0_2 (by omega)) (gi_0_2 _) rfl d_Page_comesBefore_31 ?_
    refine lv_aload_n hx hb d_Page_comesBefore_34 rfl (lv_at hl 1 rfl) ?_
    refine gf_Page_15 (z := a 2 Q1) X hW (by unfold gp; omega) (gk_p0 Q1) (gv_0_2 (by omega)) (gi_0_2 _) rfl d_Page_comesBefore_35 ?_
    refine lv_icmp_ge (tgt := 45) hx hb d_Page_comesBefore_38 (by decide) (fun h38 => ?_) (fun h38 => ?_)
    · -- 38 t
      refine lv_iconst (v := 0) hx hb d_Page_comesBefore_45 (by decide) ?_
      refine hret 0 ((a, x, o), v) _ _ _ _ ?_ hW hS d_Page_comesBefore_46
      unfold sBef
      first | exact ⟨rfl, by rw [if_neg h8, decide_eq_false (Int32.not_lt.mpr h19)]; rfl⟩ | exact ⟨rfl, by rw [if_pos h8, decide_eq_false (Int32.not_lt.mpr h38)]; rfl⟩
    · -- 38 f
      refine lv_iconst (v := 1) hx hb d_Page_comesBefore_41 (by decide) ?_
      refine lv_goto (tgt := 46) hx hb d_Page_comesBefore_42 (by decide) ?_
      refine hret 1 ((a, x, o), v) _ _ _ _ ?_ hW hS d_Page_comesBefore_46
      unfold sBef
      first | exact ⟨rfl, by rw [if_neg h8, decide_eq_true (Int32.not_le.mp h19)]; rfl⟩ | exact ⟨rfl, by rw [if_pos h8, decide_eq_true (Int32.not_le.mp h38)]; rfl⟩
  · -- 8 f
    refine lv_aload_n hx hb d_Page_comesBefore_11 rfl (lv_at hl 0 rfl) ?_
    refine gf_Page_9 (z := a 1 P) X hW (by unfold gp; omega) (gk_p0 P) (gv_0_1 (by omega)) (gi_0_1 _) rfl d_Page_comesBefore_12 ?_
    refine lv_aload_n hx hb d_Page_comesBefore_15 rfl (lv_at hl 1 rfl) ?_
    refine gf_Page_9 (z := a 1 Q1) X hW (by unfold gp; omega) (gk_p0 Q1) (gv_0_1 (by omega)) (gi_0_1 _) rfl d_Page_comesBefore_16 ?_
    refine lv_icmp_ge (tgt := 26) hx hb d_Page_comesBefore_19 (by decide) (fun h19 => ?_) (fun h19 => ?_)
    · -- 19 t
      refine lv_iconst (v := 0) hx hb d_Page_comesBefore_26 (by decide) ?_
      refine lv_goto (tgt := 46) hx hb d_Page_comesBefore_27 (by decide) ?_
      refine hret 0 ((a, x, o), v) _ _ _ _ ?_ hW hS d_Page_comesBefore_46
      unfold sBef
      first | exact ⟨rfl, by rw [if_neg h8, decide_eq_false (Int32.not_lt.mpr h19)]; rfl⟩ | exact ⟨rfl, by rw [if_pos h8, decide_eq_false (Int32.not_lt.mpr h38)]; rfl⟩
    · -- 19 f
      refine lv_iconst (v := 1) hx hb d_Page_comesBefore_22 (by decide) ?_
      refine lv_goto (tgt := 46) hx hb d_Page_comesBefore_23 (by decide) ?_
      refine hret 1 ((a, x, o), v) _ _ _ _ ?_ hW hS d_Page_comesBefore_46
      unfold sBef
      first | exact ⟨rfl, by rw [if_neg h8, decide_eq_true (Int32.not_le.mp h19)]; rfl⟩ | exact ⟨rfl, by rw [if_pos h8, decide_eq_true (Int32.not_le.mp h38)]; rfl⟩
theorem C_Page_comesBefore (l : Launch) {g : gG} {A : Nat → Prop} {ad : Nat → Nat} {np : Nat} {a x : gA} {o : gL} {v : gS} {P Q1 : Nat} (hP : P < np) (hQ : Q1 < np) : CtI l y_Page_comesBefore b_Page_comesBefore 2 .boolean 0 [.ref (ad (gp P)), .ref (ad (gp Q1))] g A ad np (a, x, o) v (fun r t => t = ((a, x, o), v) ∧ r = bI (sBef a P Q1)) := mkI (by decide) rfl (Nat.le_of_ble_eq_true rfl) (fun r t h => h.2 ▸ bI_nar _) (B_Page_comesBefore l hP hQ)

set_option maxHeartbeats 400000 in
set_option maxRecDepth 20000 in
theorem B_Page_placesOf (l : Launch) {g : gG} {A : Nat → Prop} {ad : Nat → Nat} {np : Nat} {a x : gA} {o : gL} {v : gS} {P n : Nat} {w1 w2 : Int32} {f : Nat → Int32} (hP : P < np) (hn : a 5 P = nI n) (hn8 : n ≤ 8) (hf : ∀ i, i < 8 → a 4 (8 * P + i) = f i) : BdI l b_Page_placesOf 6 R_Page 1 [.ref (ad (gp P)), .int w1, .int w2] g A ad np (a, x, o) v (fun r t => t = ((a, x, o), v) ∧ r = nI (pCt f w1 w2 n)) := by
  intro p e R s m args below meth c Q ls X hW hS hR hl hret
  have hx := X.1.1
  have hb := X.1.2.1
  have hml := X.1.2.2.1
  have hown := X.1.2.2.2.1
  have hts := X.1.2.2.2.2
  have hK := X.2.1
  have hl : lv_has ls 6 [(0, .ref (ad (gp P))), (1, .int w1), (2, .int w2)] := hl
  refine lv_iconst (v := 0) hx hb d_Page_placesOf_0 (by decide) ?_
  refine lv_istore_n hx hb d_Page_placesOf_1 rfl hl (by decide) rfl (fun ls hl => ?_)
  have hl : lv_has ls 6 [(3, .int 0), (0, .ref (ad (gp P))), (1, .int w1), (2, .int w2)] := hl
  refine lv_iconst (v := 0) hx hb d_Page_placesOf_2 (by decide) ?_
  refine lv_istore hx hb d_Page_placesOf_3 hl (by decide) rfl (fun ls hl => ?_)
  have hl : lv_has ls 6 [(4, .int 0), (3, .int 0), (0, .ref (ad (gp P))), (1, .int w1), (2, .int w2)] := hl
  have lp5 : ∀ (fuel : Nat) (i : Nat) (ls : Array Slot) (H : Heap) (locs : List Loc), (i ≤ n) → n - i < fuel → lv_has ls 6 [(0, .ref (ad (gp P))), (1, .int w1), (2, .int w2), (3, .int (nI (pCt f w1 w2 i))), (4, .int (nI i))] → gW g A ad np (a, x, o) v H → va_S A s.heap H locs → W p l e R s m args below meth c H locs 0 0 Q (F0 m 5 ls []) := by
    intro fuel
    induction fuel with
    | zero => intro i ls H locs _ hfu; exact absurd hfu (Nat.not_lt_zero _)
    | succ fuel ih =>
      intro i ls H locs hi hfu hl hW hS
      refine lv_iload hx hb d_Page_placesOf_5 (lv_at hl 4 rfl) ?_
      refine lv_aload_n hx hb d_Page_placesOf_7 rfl (lv_at hl 0 rfl) ?_
      refine gf_Page_23 X hW (by unfold gp; omega) (gk_p0 P) d_Page_placesOf_8 ?_
      refine gf_Page_42 (z := nI n) X hW (by unfold gp; omega) (gk_p1 P) (gv_0_5 (by omega)) (gi_0_5 _) hn d_Page_placesOf_11 ?_
      refine lv_icmp_ge (tgt := 49) hx hb d_Page_placesOf_14 (by decide) (fun h14 => ?_) (fun h14 => ?_)
      · -- 14 t
        have h14 : n ≤ i := (nI_leI (a := n) (b := i) (by omega) (by omega)).mp h14
        refine lv_iload_n hx hb d_Page_placesOf_49 rfl (lv_at hl 3 rfl) ?_
        refine hret (nI (pCt f w1 w2 i)) ((a, x, o), v) _ _ _ _ ?_ hW hS d_Page_placesOf_50
        exact ⟨rfl, by rw [show n = i by omega]⟩
      · -- 14 f
        have h14 : i < n := Nat.lt_of_not_le fun q => h14 ((nI_leI (a := n) (b := i) (by omega) (by omega)).mpr q)
        refine lv_aload_n hx hb d_Page_placesOf_17 rfl (lv_at hl 0 rfl) ?_
        refine gf_Page_23 X hW (by unfold gp; omega) (gk_p0 P) d_Page_placesOf_18 ?_
        refine lv_iload hx hb d_Page_placesOf_21 (lv_at hl 4 rfl) ?_
        refine gc_iV (As := [.int (nI i)]) (b := ad (gp P + 1)) (rest := []) X cw_Page_45 (C_Row_at l (u := (a, x, o)) (v := v) (x := nI i) (gRow_b hP) hn hn8 hf) hW hS (gW_recv (ci := 3) (fs := gf3 ad (gp P + 1)) hK hW (by unfold gp; omega) (fun σ τ => ge_3 (gk_p1 P) σ τ) (r := (R_Row, F_Row, 2)) rfl) ⟨Nat.le_trans (Nat.le_of_ble_eq_true rfl) hR.1, Nat.le_trans (Nat.le_of_ble_eq_true rfl) hR.2⟩ rfl hl.1 rfl (Nat.le_of_ble_eq_true rfl) d_Page_placesOf_23 ⟨Nat.zero_le _, Nat.zero_le _⟩ (fun r t H locs hp hW hS => ?_)
        obtain ⟨rfl, hr9⟩ := hp
        rw [at_in (by omega) (by omega)] at hr9
        subst hr9
        have hW : gW g A ad np (a, x, o) v H := hW
        refine lv_istore hx hb d_Page_placesOf_26 hl (by decide) rfl (fun ls hl => ?_)
        have hl : lv_has ls 6 [(5, .int (f i)), (0, .ref (ad (gp P))), (1, .int w1), (2, .int w2), (3, .int (nI (pCt f w1 w2 i))), (4, .int (nI i))] := hl
        refine lv_iload hx hb d_Page_placesOf_28 (lv_at hl 0 rfl) ?_
        refine lv_iload_n hx hb d_Page_placesOf_30 rfl (lv_at hl 2 rfl) ?_
        refine lv_icmp_eq (tgt := 40) hx hb d_Page_placesOf_31 (by decide) (fun h31 => ?_) (fun h31 => ?_)
        · -- 31 t
          refine lv_iinc (v := nI (pCt f w1 w2 i + 1)) (k := 4) hx hb d_Page_placesOf_40 hl rfl (nI_inc (pCt f w1 w2 i)) (by decide) rfl (fun ls hl => ?_)
          have hl : lv_has ls 6 [(3, .int (nI (pCt f w1 w2 i + 1))), (5, .int (f i)), (0, .ref (ad (gp P))), (1, .int w1), (2, .int w2), (4, .int (nI i))] := hl
          refine lv_iinc (v := nI (i + 1)) (k := 5) hx hb d_Page_placesOf_43 hl rfl (nI_inc i) (by decide) rfl (fun ls hl => ?_)
          have hl : lv_has ls 6 [(4, .int (nI (i + 1))), (3, .int (nI (pCt f w1 w2 i + 1))), (5, .int (f i)), (0, .ref (ad (gp P))), (1, .int w1), (2, .int w2)] := hl
          refine lv_goto (tgt := 5) hx hb d_Page_placesOf_46 (by decide) ?_
          have e9 : pCt f w1 w2 (i + 1) = _ := pCt_y (by first | exact Or.inl h31 | exact Or.inr h37)
          exact ih (i + 1) _ _ _ (by omega) (by omega) (by rw [e9]; exact (lv_sub hl [3, 4, 5, 1, 0] rfl)) hW hS
        · -- 31 f
          refine lv_iload hx hb d_Page_placesOf_34 (lv_at hl 0 rfl) ?_
          refine lv_iload_n hx hb d_Page_placesOf_36 rfl (lv_at hl 3 rfl) ?_
          refine lv_icmp_ne (tgt := 43) hx hb d_Page_placesOf_37 (by decide) (fun h37 => ?_) (fun h37 => ?_)
          · -- 37 t
            refine lv_iinc (v := nI (i + 1)) (k := 5) hx hb d_Page_placesOf_43 hl rfl (nI_inc i) (by decide) rfl (fun ls hl => ?_)
            have hl : lv_has ls 6 [(4, .int (nI (i + 1))), (5, .int (f i)), (0, .ref (ad (gp P))), (1, .int w1), (2, .int w2), (3, .int (nI (pCt f w1 w2 i)))] := hl
            refine lv_goto (tgt := 5) hx hb d_Page_placesOf_46 (by decide) ?_
            have e9 : pCt f w1 w2 (i + 1) = _ := pCt_n h31 h37
            exact ih (i + 1) _ _ _ (by omega) (by omega) (by rw [e9]; exact (lv_sub hl [2, 3, 4, 5, 0] rfl)) hW hS
          · -- 37 f
            refine lv_iinc (v := nI (pCt f w1 w2 i + 1)) (k := 4) hx hb d_Page_placesOf_40 hl rfl (nI_inc (pCt f w1 w2 i)) (by decide) rfl (fun ls hl => ?_)
            have hl : lv_has ls 6 [(3, .int (nI (pCt f w1 w2 i + 1))), (5, .int (f i)), (0, .ref (ad (gp P))), (1, .int w1), (2, .int w2), (4, .int (nI i))] := hl
            refine lv_iinc (v := nI (i + 1)) (k := 5) hx hb d_Page_placesOf_43 hl rfl (nI_inc i) (by decide) rfl (fun ls hl => ?_)
            have hl : lv_has ls 6 [(4, .int (nI (i + 1))), (3, .int (nI (pCt f w1 w2 i + 1))), (5, .int (f i)), (0, .ref (ad (gp P))), (1, .int w1), (2, .int w2)] := hl
            refine lv_goto (tgt := 5) hx hb d_Page_placesOf_46 (by decide) ?_
            have e9 : pCt f w1 w2 (i + 1) = _ := pCt_y (by first | exact Or.inl h31 | exact Or.inr h37)
            exact ih (i + 1) _ _ _ (by omega) (by omega) (by rw [e9]; exact (lv_sub hl [3, 4, 5, 1, 0] rfl)) hW hS
  exact lp5 _ 0 _ _ _ (Nat.zero_le _) (Nat.lt_succ_self _) (lv_sub hl [2, 3, 4, 1, 0] rfl) hW hS
theorem C_Page_placesOf (l : Launch) {g : gG} {A : Nat → Prop} {ad : Nat → Nat} {np : Nat} {a x : gA} {o : gL} {v : gS} {P n : Nat} {w1 w2 : Int32} {f : Nat → Int32} (hP : P < np) (hn : a 5 P = nI n) (hn8 : n ≤ 8) (hf : ∀ i, i < 8 → a 4 (8 * P + i) = f i) : CtI l y_Page_placesOf b_Page_placesOf 6 .int 1 [.ref (ad (gp P)), .int w1, .int w2] g A ad np (a, x, o) v (fun r t => t = ((a, x, o), v) ∧ r = nI (pCt f w1 w2 n)) := mkI (by decide) rfl (Nat.le_of_ble_eq_true rfl) (fun _ _ _ => rfl) (B_Page_placesOf l hP hn hn8 hf)
end
section
/-! The gathering's specs: rows without repeats, fetching, queueing, chasing, handling. -/
theorem pig : ∀ (np n : Nat) (f : Nat → Nat), (∀ i, i < n → f i < np) → (∀ i j, i < n → j < n → f i = f j → i = j) → n ≤ np
  | 0, n, f, h, _ => by
    cases n with
    | zero => exact Nat.le_refl _
    | succ n => exact absurd (h 0 (by omega)) (Nat.not_lt_zero _)
  | np + 1, n, f, h, hi => by
    by_cases he : ∃ i0, i0 < n ∧ f i0 = np
    · obtain ⟨i0, hi0, e0⟩ := he
      have := pig np (n - 1) (fun i => if i < i0 then f i else f (i + 1)) (fun i hin => by
        show (if i < i0 then f i else f (i + 1)) < np
        by_cases c : i < i0
        · rw [if_pos c]
          have h1 := h i (by omega)
          have h2 : f i ≠ np := fun e => absurd (hi i i0 (by omega) hi0 (e.trans e0.symm)) (by omega)
          omega
        · rw [if_neg c]
          have h1 := h (i + 1) (by omega)
          have h2 : f (i + 1) ≠ np := fun e => absurd (hi (i + 1) i0 (by omega) hi0 (e.trans e0.symm)) (by omega)
          omega) (fun i j hin hjn e => by
        have e : (if i < i0 then f i else f (i + 1)) = (if j < i0 then f j else f (j + 1)) := e
        by_cases ci : i < i0 <;> by_cases cj : j < i0
        · rw [if_pos ci, if_pos cj] at e
          exact hi i j (by omega) (by omega) e
        · rw [if_pos ci, if_neg cj] at e
          have := hi i (j + 1) (by omega) (by omega) e
          omega
        · rw [if_neg ci, if_pos cj] at e
          have := hi (i + 1) j (by omega) (by omega) e
          omega
        · rw [if_neg ci, if_neg cj] at e
          have := hi (i + 1) (j + 1) (by omega) (by omega) e
          omega)
      omega
    · have := pig np n f (fun i hin => by
        have h1 := h i hin
        have h2 : f i ≠ np := fun e => he ⟨i, hin, e⟩
        omega) hi
      omega
/-- a row of n different pages -/
def dst (f : Nat → Int32) (n np : Nat) : Prop := (∀ i, i < n → ∃ q, q < np ∧ f i = nI q) ∧ ∀ i j, i < n → j < n → f i = f j → i = j
theorem dst_le {f : Nat → Int32} {n np : Nat} (h : dst f n np) (hnp : np ≤ 32) : n ≤ np := by
  refine pig np n (fun i => (f i).toNatClampNeg) (fun i hi => ?_) (fun i j hi hj e => ?_)
  · obtain ⟨q, hq, e⟩ := h.1 i hi
    show (f i).toNatClampNeg < np
    rw [e, nI_clamp (by omega)]
    exact hq
  · obtain ⟨q, hq, e1⟩ := h.1 i hi
    obtain ⟨q2, hq2, e2⟩ := h.1 j hj
    have e : (f i).toNatClampNeg = (f j).toNatClampNeg := e
    rw [e1, e2, nI_clamp (by omega), nI_clamp (by omega)] at e
    exact h.2 i j hi hj (by rw [e1, e2, e])
theorem dst_push {f : Nat → Int32} {n np q : Nat} {x : Int32} (h : dst f n np) (hq : q < np) (hx : x = nI q) (hn : pEq f x n = false) : dst (upd f n x) (n + 1) np := by
  refine ⟨fun i hi => ?_, fun i j hi hj e => ?_⟩
  · by_cases c : i = n
    · subst c
      exact ⟨q, hq, pk_us.trans hx⟩
    · rw [pk_un c]
      exact h.1 i (by omega)
  · by_cases ci : i = n <;> by_cases cj : j = n
    · omega
    · subst ci
      rw [pk_us, pk_un cj] at e
      exact absurd e.symm (pEq_no hn (by omega))
    · subst cj
      rw [pk_us, pk_un ci] at e
      exact absurd e (pEq_no hn (by omega))
    · rw [pk_un ci, pk_un cj] at e
      exact h.2 i j (by omega) (by omega) e
theorem dst_cut {f : Nat → Int32} {n m np : Nat} (h : dst f n np) (hm : m ≤ n) : dst f m np := ⟨fun i hi => h.1 i (by omega), fun i j hi hj e => h.2 i j (by omega) (by omega) e⟩
theorem dst_mono {f : Nat → Int32} {n np np' : Nat} (h : dst f n np) (hm : np ≤ np') : dst f n np' := ⟨fun i hi => by obtain ⟨q, hq, e⟩ := h.1 i hi; exact ⟨q, by omega, e⟩, h.2⟩
theorem dst_room {f : Nat → Int32} {n np q : Nat} {x : Int32} (h : dst f n np) (hq : q < np) (hx : x = nI q) (hn : pEq f x n = false) (hnp : np ≤ 32) : n < 32 := by
  have := dst_le (dst_push h hq hx hn) hnp
  omega
def tm (a : gA) (h : Nat) : Int32 := if a 0 26 < a 16 h then a 16 h else a 0 26
def sFe2 (a : gA) (P h nf : Nat) : gA := gu (gu (gu (gu (gu a 16 h (tm a h + a 0 16)) 0 26 (tm a h + 1)) 14 nf (nI P)) 0 23 (nI (nf + 1))) 0 28 (a 0 28 + 1)
/-- a page is fetched -/
def sFe (a : gA) (P : Nat) : gA := if pEq (a 14) (nI P) (cn a 23) = true then a else sFe2 a P (a 1 P).toNatClampNeg (cn a 23)
theorem sFe_y {a : gA} {P nf : Nat} (hn : a 0 23 = nI nf) (hnf : nf < 2 ^ 31) (h : pEq (a 14) (nI P) nf = true) : sFe a P = a := by
  unfold sFe
  rw [cn_of hn hnf, if_pos h]
theorem sFe_n {a : gA} {P nf h : Nat} (hn : a 0 23 = nI nf) (hnf : nf < 2 ^ 31) (hh : a 1 P = nI h) (hh6 : h < 6) (hp : pEq (a 14) (nI P) nf = false) : sFe a P = sFe2 a P h nf := by
  unfold sFe
  rw [cn_of hn hnf, if_neg (by rw [hp]; decide), hh, nI_clamp (by omega)]
/-- all hosts' times -/
def sAF (a : gA) (w : Int32) : Nat → gA
  | 0 => a
  | n + 1 => gu (sAF a w n) 16 n w
def sMk (a : gA) : gA := gu (gu (gu (gu (gu a 0 29 (a 0 20)) 0 30 (a 0 21)) 0 31 (a 0 23)) 0 32 (a 0 25)) 0 33 0
def sQ2 (a : gA) (p d : Int32) (nq : Nat) : gA := gu (gu (gu a 12 nq p) 0 21 (nI (nq + 1))) 13 nq d
/-- a page is queued -/
def sQ (a : gA) (p d : Int32) : gA := if pEq (a 12) p (cn a 21) = true then a else sQ2 a p d (cn a 21)
def sQA (f : Nat → Int32) (d : Int32) (a : gA) : Nat → gA
  | 0 => a
  | n + 1 => sQ (sQA f d a n) (f n) d
theorem sQ_y {a : gA} {p d : Int32} {nq : Nat} (hn : a 0 21 = nI nq) (hnq : nq < 2 ^ 31) (h : pEq (a 12) p nq = true) : sQ a p d = a := by
  unfold sQ
  rw [cn_of hn hnq, if_pos h]
theorem sQ_n {a : gA} {p d : Int32} {nq : Nat} (hn : a 0 21 = nI nq) (hnq : nq < 2 ^ 31) (h : pEq (a 12) p nq = false) : sQ a p d = sQ2 a p d nq := by
  unfold sQ
  rw [cn_of hn hnq, if_neg (by rw [h]; decide)]
/-- all but the queue is the same -/
def qk (a a' : gA) : Prop := ∀ r j, ¬ (r = 12 ∨ r = 13 ∨ (r = 0 ∧ j = 21)) → a' r j = a r j
theorem qk_rf (a : gA) : qk a a := fun _ _ _ => rfl
theorem qk_sQ (a : gA) (p d : Int32) : qk a (sQ a p d) := by
  intro r j h
  unfold sQ
  by_cases hp : pEq (a 12) p (cn a 21) = true
  · rw [if_pos hp]
  · rw [if_neg hp]
    unfold sQ2
    rw [gu_off (fun q => h (Or.inr (Or.inl q.1))), gu_off (fun q => h (Or.inr (Or.inr q))), gu_off (fun q => h (Or.inl q.1))]
theorem qk_tr {a b c : gA} (h1 : qk a b) (h2 : qk b c) : qk a c := fun r j h => (h2 r j h).trans (h1 r j h)
theorem qk_sQA (f : Nat → Int32) (d : Int32) (a : gA) : ∀ n, qk a (sQA f d a n)
  | 0 => qk_rf a
  | n + 1 => qk_tr (qk_sQA f d a n) (qk_sQ _ _ _)
theorem qk_row {a a' : gA} (h : qk a a') {r : Nat} (h0 : r ≠ 0) (h1 : r ≠ 12) (h2 : r ≠ 13) : a' r = a r := funext fun j => h r j (fun q => q.elim h1 (fun q => q.elim h2 (fun q => h0 q.1)))
/-- the chase's answer, with n pages left to look at -/
def sC2 (a : gA) : Nat → Nat → Int32
  | 0, _ => -1
  | n + 1, P => if sAlw a P = false then -1 else if a 3 P = -2 then nI P else if a 3 P = -3 then -1 else sC2 a n (a 3 P).toNatClampNeg
/-- and what it fetches -/
def sF2 : Nat → gA → Nat → gA
  | 0, a, _ => a
  | n + 1, a, P => if sAlw a P = false then a else if a 3 P = -2 ∨ a 3 P = -3 then sFe a P else sF2 n (sFe a P) (a 3 P).toNatClampNeg
theorem sFe_row {a : gA} {P r : Nat} (h0 : r ≠ 0) (h1 : r ≠ 14) (h2 : r ≠ 16) : sFe a P r = a r := by
  unfold sFe
  by_cases hp : pEq (a 14) (nI P) (cn a 23) = true
  · rw [if_pos hp]
  · rw [if_neg hp]
    unfold sFe2
    rw [gu_ne h0, gu_ne h0, gu_ne h1, gu_ne h0, gu_ne h2]
theorem sFe_sc {a : gA} {P j : Nat} (h1 : j ≠ 26) (h2 : j ≠ 23) (h3 : j ≠ 28) : sFe a P 0 j = a 0 j := by
  unfold sFe
  by_cases hp : pEq (a 14) (nI P) (cn a 23) = true
  · rw [if_pos hp]
  · rw [if_neg hp]
    unfold sFe2
    rw [gu_off (fun q => h3 q.2), gu_off (fun q => h2 q.2), gu_off (fun q => absurd q.1 (by decide)), gu_off (fun q => h1 q.2), gu_off (fun q => absurd q.1 (by decide))]
/-- the same web -/
def wk (a a' : gA) : Prop := (∀ r, 1 ≤ r → r ≤ 11 → a' r = a r) ∧ ∀ j, j ≤ 17 → a' 0 j = a 0 j
theorem wk_rf (a : gA) : wk a a := ⟨fun _ _ _ => rfl, fun _ _ => rfl⟩
theorem wk_tr {a b c : gA} (h1 : wk a b) (h2 : wk b c) : wk a c := ⟨fun r p q => (h2.1 r p q).trans (h1.1 r p q), fun j p => (h2.2 j p).trans (h1.2 j p)⟩
theorem wk_sFe (a : gA) (P : Nat) : wk a (sFe a P) := ⟨fun r p q => sFe_row (by omega) (by omega) (by omega), fun j p => sFe_sc (by omega) (by omega) (by omega)⟩
theorem wk_qk {a a' : gA} (h : qk a a') : wk a a' := ⟨fun r p q => qk_row h (by omega) (by omega) (by omega), fun j p => h 0 j (by omega)⟩
theorem wk_sc {a : gA} {j : Nat} {z : Int32} (h : 17 < j) : wk a (gu a 0 j z) := ⟨fun r p q => gu_ne (by omega), fun j' p => gu_off (fun q => by omega)⟩
theorem wk_r {a : gA} {r j : Nat} {z : Int32} (h : 11 < r) : wk a (gu a r j z) := ⟨fun r' p q => gu_ne (by omega), fun j' p => gu_off (fun q => by omega)⟩
theorem WFw_wk {np : Nat} {a a' : gA} (h : wk a a') (hw : WFw np a) : WFw np a' := by
  obtain ⟨h1, h2⟩ := h
  unfold WFw at hw ⊢
  rw [h1 1 (by omega) (by omega), h1 2 (by omega) (by omega), h1 3 (by omega) (by omega), h1 4 (by omega) (by omega), h1 5 (by omega) (by omega), h1 6 (by omega) (by omega), h1 7 (by omega) (by omega), h1 8 (by omega) (by omega), h1 9 (by omega) (by omega), h1 10 (by omega) (by omega), h1 11 (by omega) (by omega), h2 0 (by omega), h2 12 (by omega), h2 13 (by omega)]
  exact hw
theorem sAlw_wk {a a' : gA} (h : wk a a') (P : Nat) : sAlw a' P = sAlw a P := by
  unfold sAlw
  rw [h.1 1 (by omega) (by omega), h.1 2 (by omega) (by omega), h.1 8 (by omega) (by omega), h.1 9 (by omega) (by omega), h.1 10 (by omega) (by omega)]
theorem sC2_wk {a a' : gA} (h : wk a a') : ∀ (n P : Nat), sC2 a' n P = sC2 a n P
  | 0, _ => rfl
  | n + 1, P => by
    unfold sC2
    rw [sAlw_wk h, h.1 3 (by omega) (by omega), sC2_wk h n]
theorem wk_sF2 : ∀ (n : Nat) (a : gA) (P : Nat), wk a (sF2 n a P)
  | 0, a, _ => wk_rf a
  | n + 1, a, P => by
    unfold sF2
    split
    · exact wk_rf a
    · split
      · exact wk_sFe a P
      · exact wk_tr (wk_sFe a P) (wk_sF2 n _ _)
theorem sC2_pg {np : Nat} {a : gA} (hw : WFw np a) : ∀ (n P : Nat), P < np → sC2 a n P = -1 ∨ ∃ q, q < np ∧ sC2 a n P = nI q
  | 0, _, _ => Or.inl rfl
  | n + 1, P, hP => by
    unfold sC2
    split
    · exact Or.inl rfl
    · split
      · exact Or.inr ⟨P, hP, rfl⟩
      · split
        · exact Or.inl rfl
        · rename_i h1 h2 h3
          rcases (hw.2.2.1 P hP).2.2.1 with h | h | ⟨q, hq, h⟩
          · exact absurd h h2
          · exact absurd h h3
          · rw [h, nI_clamp (by have := hw.1; omega)]
            exact sC2_pg hw n q hq
/-- the class's own: replies as constants, the row of depths, the row of documents -/
def WX (np : Nat) (a x : gA) : Prop := (∀ p, p < np → (a 3 p = -2 ∧ x 0 p = 0) ∨ (a 3 p = -3 ∧ x 0 p = 2) ∨ ∃ q, q < np ∧ a 3 p = nI q ∧ x 0 p = 1 ∧ x 1 p = nI q) ∧ x 2 0 = a 0 21 ∧ ∃ k, k ≤ 32 ∧ x 2 1 = nI k
theorem nI_neg {q : Nat} (hq : q < 2 ^ 31) {z : Int32} (hz : z < 0) : ¬ nI q = z := fun e => absurd (nI_pos' hq) (by rw [e]; exact Int32.not_le.mpr hz)
theorem WX_code {np P : Nat} {a x : gA} (h : WX np a x) (hnp : np ≤ 32) (hP : P < np) : ∃ c, c < 3 ∧ x 0 P = nI c ∧ (c = 0 ↔ a 3 P = -2) ∧ (c = 2 ↔ a 3 P = -3) ∧ (c = 1 → ∃ q, q < np ∧ a 3 P = nI q ∧ x 1 P = nI q) := by
  rcases h.1 P hP with ⟨h1, h2⟩ | ⟨h1, h2⟩ | ⟨q, hq, h1, h2, h3⟩
  · exact ⟨0, by omega, h2, by simp [h1], by rw [h1]; decide, fun h => by cases h⟩
  · exact ⟨2, by omega, h2, by rw [h1]; decide, by simp [h1], fun h => by cases h⟩
  · have n1 : ¬ nI q = (-2 : Int32) := nI_neg (by omega) (by decide)
    have n2 : ¬ nI q = (-3 : Int32) := nI_neg (by omega) (by decide)
    refine ⟨1, by omega, h2, ?_, ?_, fun _ => ⟨q, hq, h1, h3⟩⟩
    · rw [h1]
      exact ⟨fun h => absurd h (by decide), fun h => absurd h n1⟩
    · rw [h1]
      exact ⟨fun h => absurd h (by decide), fun h => absurd h n2⟩
theorem en_eq {g : gG} {A : Nat → Prop} {s : State} {H : Heap} (hE : va_En R_Reply gRd ["HERE", "MOVED", "GONE"] [] g.2.2 A s H) {c k : Nat} (hc : c < 3) (hk : k < 3) : some (g.2.2 (nI c).toNatClampNeg) = some (g.2.2 k) ↔ c = k := by
  rw [nI_clamp (by omega)]
  exact ⟨fun h => hE.2 c k hc hk (Option.some.inj h), fun h => by rw [h]⟩
/-- slots that the class doesn't hold -/
theorem gW_gh {g : gG} {A : Nat → Prop} {ad : Nat → Nat} {np : Nat} {a a' x : gA} {o : gL} {v : gS} {H : Heap} (h : gW g A ad np (a, x, o) v H) (ha : ∀ r i, gv np (0, r, i) → a' r i = a r i) : gW g A ad np (a', x, o) v H := by
  obtain ⟨σ, τ, h1, h2, h3, h4, h5⟩ := h
  refine ⟨σ, τ, h1, h2, fun q hq => ?_, h4, h5⟩
  rw [h3 q hq]
  obtain ⟨sp, r, i⟩ := q
  match sp with
  | 0 => exact (ha r i hq).symm
  | 1 => rfl
  | 2 => rfl
  | _ + 3 => rfl
theorem gW_33 {g : gG} {A : Nat → Prop} {ad : Nat → Nat} {np : Nat} {a x : gA} {o : gL} {v : gS} {H : Heap} (z : Int32) (h : gW g A ad np (a, x, o) v H) : gW g A ad np (gu a 0 33 z, x, o) v H :=
  gW_gh h (fun r i hq => gu_off (fun e => by obtain ⟨rfl, rfl⟩ := e; exact absurd hq (show ¬ (gff (0, 0, 33)).isSome = true by decide)))
theorem gW_r3 {g : gG} {A : Nat → Prop} {ad : Nat → Nat} {np : Nat} {a x : gA} {o : gL} {v : gS} {H : Heap} (p : Nat) (z : Int32) (h : gW g A ad np (a, x, o) v H) : gW g A ad np (gu a 3 p z, x, o) v H :=
  gW_gh h (fun r i hq => gu_off (fun e => by
    obtain ⟨rfl, rfl⟩ := e
    have h1 : (gff (0, 3, i)).isSome = true := hq
    have h2 : ∀ e ∈ gF, e.2.2.1 = 0 → e.2.2.2.1 ≠ 3 := by decide
    cases hf : gff (0, 3, i) with
    | none => rw [hf] at h1; cases h1
    | some e =>
      have hm := List.mem_of_find?_eq_some hf
      have hp := List.find?_some hf
      simp only [beq_iff_eq] at hp
      exact h2 e hm (by rw [hp]) (by rw [hp])))
end
section
/-! specs_gat -/
theorem sFe_dst {a : gA} {P nf np : Nat} (hnf : a 0 23 = nI nf) (hd : dst (a 14) nf np) (hP : P < np) (hnp : np ≤ 32) : ∃ nf2, sFe a P 0 23 = nI nf2 ∧ dst (sFe a P 14) nf2 np := by
  have h32 := dst_le hd hnp
  cases hp : pEq (a 14) (nI P) nf with
  | true => rw [sFe_y hnf (by omega) hp]; exact ⟨nf, hnf, hd⟩
  | false =>
    unfold sFe
    rw [cn_of hnf (by omega), if_neg (by rw [hp]; decide)]
    exact ⟨nf + 1, rfl, dst_push hd hP rfl hp⟩
set_option maxHeartbeats 400000 in
set_option maxRecDepth 20000 in
theorem B_Gat_entriesLeft (l : Launch) {g : gG} {A : Nat → Prop} {ad : Nat → Nat} {np : Nat} {a x : gA} {o : gL} {v : gS}  : BdI l b_Gat_entriesLeft 1 R_Gat 0 [.ref (ad 24)] g A ad np (a, x, o) v (fun r t => t = ((a, x, o), v) ∧ r = a 0 21 - a 0 20) := by
  intro p e R s m args below meth c Q ls X hW hS hR hl hret
  have hx := X.1.1
  have hb := X.1.2.1
  have hml := X.1.2.2.1
  have hown := X.1.2.2.2.1
  have hts := X.1.2.2.2.2
  have hK := X.2.1
  have hl : lv_has ls 1 [(0, .ref (ad 24))] := hl
  refine lv_aload_n hx hb d_Gat_entriesLeft_0 rfl (lv_at hl 0 rfl) ?_
  refine gf_Gat_20 X hW  d_Gat_entriesLeft_1 ?_
  refine gf_Gat_77 (z := a 0 21) X hW (by omega) rfl (gv_0_0_21 _) rfl rfl d_Gat_entriesLeft_4 ?_
  refine lv_aload_n hx hb d_Gat_entriesLeft_7 rfl (lv_at hl 0 rfl) ?_
  refine gf_Gat_53 (z := a 0 20) X hW  (gv_0_0_20 _) rfl rfl d_Gat_entriesLeft_8 ?_
  refine lv_isub hx hb d_Gat_entriesLeft_11 ?_
  refine hret ((a 0 21) - (a 0 20)) ((a, x, o), v) _ _ _ _ ?_ hW hS d_Gat_entriesLeft_12
  exact ⟨rfl, rfl⟩
theorem C_Gat_entriesLeft (l : Launch) {g : gG} {A : Nat → Prop} {ad : Nat → Nat} {np : Nat} {a x : gA} {o : gL} {v : gS}  : CtI l y_Gat_entriesLeft b_Gat_entriesLeft 1 .int 0 [.ref (ad 24)] g A ad np (a, x, o) v (fun r t => t = ((a, x, o), v) ∧ r = a 0 21 - a 0 20) := mkI (by decide) rfl (Nat.le_of_ble_eq_true rfl) (fun _ _ _ => rfl) (B_Gat_entriesLeft l )

set_option maxHeartbeats 400000 in
set_option maxRecDepth 20000 in
theorem B_Gat_setAllFrom (l : Launch) {g : gG} {A : Nat → Prop} {ad : Nat → Nat} {np : Nat} {a x : gA} {o : gL} {v : gS} {w : Int32}  : BdV l b_Gat_setAllFrom 3 R_Gat 0 [.ref (ad 24), .int w] g A ad np (a, x, o) v (fun t => t = ((sAF a w 6, x, o), v)) := by
  intro p e R s m args below meth c Q ls X hW hS hR hl hret
  have hx := X.1.1
  have hb := X.1.2.1
  have hml := X.1.2.2.1
  have hown := X.1.2.2.2.1
  have hts := X.1.2.2.2.2
  have hK := X.2.1
  have hl : lv_has ls 3 [(0, .ref (ad 24)), (1, .int w)] := hl
  refine lv_iconst (v := 0) hx hb d_Gat_setAllFrom_0 (by decide) ?_
  refine lv_istore_n hx hb d_Gat_setAllFrom_1 rfl hl (by decide) rfl (fun ls hl => ?_)
  have hl : lv_has ls 3 [(2, .int 0), (0, .ref (ad 24)), (1, .int w)] := hl
  have lp2 : ∀ (fuel : Nat) (i : Nat) (ls : Array Slot) (H : Heap) (locs : List Loc), (i ≤ 6) → 6 - i < fuel → lv_has ls 3 [(0, .ref (ad 24)), (1, .int w), (2, .int (nI i))] → gW g A ad np (sAF a w i, x, o) v H → va_S A s.heap H locs → W p l e R s m args below meth c H locs 0 0 Q (F0 m 2 ls []) := by
    intro fuel
    induction fuel with
    | zero => intro i ls H locs _ hfu; exact absurd hfu (Nat.not_lt_zero _)
    | succ fuel ih =>
      intro i ls H locs hi hfu hl hW hS
      refine lv_iload_n hx hb d_Gat_setAllFrom_2 rfl (lv_at hl 2 rfl) ?_
      refine lv_bipush (v := 6) hx hb d_Gat_setAllFrom_3 (by decide) ?_
      refine lv_icmp_ge (tgt := 21) hx hb d_Gat_setAllFrom_5 (by decide) (fun h5 => ?_) (fun h5 => ?_)
      · -- 5 t
        have h5 : 6 ≤ i := (nI_leI (a := 6) (b := i) (by omega) (by omega)).mp h5
        refine hret ((sAF a w i, x, o), v) _ _ _ _ ?_ hW hS d_Gat_setAllFrom_21
        rw [show i = 6 by omega]
      · -- 5 f
        have h5 : i < 6 := Nat.lt_of_not_le fun q => h5 ((nI_leI (a := 6) (b := i) (by omega) (by omega)).mpr q)
        refine lv_aload_n hx hb d_Gat_setAllFrom_8 rfl (lv_at hl 0 rfl) ?_
        refine gf_Gat_33 X hW  d_Gat_setAllFrom_9 ?_
        refine lv_iload_n hx hb d_Gat_setAllFrom_12 rfl (lv_at hl 2 rfl) ?_
        refine lv_iload_n hx hb d_Gat_setAllFrom_13 rfl (lv_at hl 1 rfl) ?_
        refine gy_is (z := w) (q := (0, 16, i)) hx hb hK hW hS (by omega) rfl (show vp_in _ 6 from vp_in_nI (by omega) (by decide)) (gv_0_16 (by omega)) ((gi_0_16 _).trans (by rw [nI_clamp (by omega)])) d_Gat_setAllFrom_14 (fun H locs hW hS => ?_)
        have hW : gW g A ad np (gu (sAF a w i) 16 i w, x, o) v H := hW
        refine lv_iinc (v := nI (i + 1)) (k := 2) hx hb d_Gat_setAllFrom_15 hl rfl (nI_inc i) (by decide) rfl (fun ls hl => ?_)
        have hl : lv_has ls 3 [(2, .int (nI (i + 1))), (0, .ref (ad 24)), (1, .int w)] := hl
        refine lv_goto (tgt := 2) hx hb d_Gat_setAllFrom_18 (by decide) ?_
        exact ih (i + 1) _ _ _ (by omega) (by omega) (lv_sub hl [1, 2, 0] rfl) hW hS
  exact lp2 _ 0 _ _ _ (by decide) (Nat.lt_succ_self _) (lv_sub hl [1, 2, 0] rfl) hW hS
theorem C_Gat_setAllFrom (l : Launch) {g : gG} {A : Nat → Prop} {ad : Nat → Nat} {np : Nat} {a x : gA} {o : gL} {v : gS} {w : Int32}  : CtV l y_Gat_setAllFrom b_Gat_setAllFrom 3 0 [.ref (ad 24), .int w] g A ad np (a, x, o) v (fun t => t = ((sAF a w 6, x, o), v)) := mkV (by decide) rfl (Nat.le_of_ble_eq_true rfl) (B_Gat_setAllFrom l )

set_option maxHeartbeats 400000 in
set_option maxRecDepth 20000 in
theorem B_Gat_setMark (l : Launch) {g : gG} {A : Nat → Prop} {ad : Nat → Nat} {np : Nat} {a x : gA} {o : gL} {v : gS}  : BdV l b_Gat_setMark 1 R_Gat 0 [.ref (ad 24)] g A ad np (a, x, o) v (fun t => t = ((sMk a, x, o), v)) := by
  intro p e R s m args below meth c Q ls X hW hS hR hl hret
  have hx := X.1.1
  have hb := X.1.2.1
  have hml := X.1.2.2.1
  have hown := X.1.2.2.2.1
  have hts := X.1.2.2.2.2
  have hK := X.2.1
  have hl : lv_has ls 1 [(0, .ref (ad 24))] := hl
  refine lv_aload_n hx hb d_Gat_setMark_0 rfl (lv_at hl 0 rfl) ?_
  refine lv_aload_n hx hb d_Gat_setMark_1 rfl (lv_at hl 0 rfl) ?_
  refine gf_Gat_53 (z := a 0 20) X hW  (gv_0_0_20 _) rfl rfl d_Gat_setMark_2 ?_
  refine pf_Gat_104 (z := a 0 20) X hW hS  (gv_0_0_29 _) rfl rfl rfl d_Gat_setMark_5 (fun H locs hW hS => ?_)
  have hW : gW g A ad np (gu a 0 29 (a 0 20), x, o) v H := hW
  refine lv_aload_n hx hb d_Gat_setMark_8 rfl (lv_at hl 0 rfl) ?_
  refine lv_aload_n hx hb d_Gat_setMark_9 rfl (lv_at hl 0 rfl) ?_
  refine gf_Gat_20 X hW  d_Gat_setMark_10 ?_
  refine gf_Gat_77 (z := a 0 21) X hW (by omega) rfl (gv_0_0_21 _) rfl rfl d_Gat_setMark_13 ?_
  refine pf_Gat_128 (z := a 0 21) X hW hS  (gv_0_0_30 _) rfl rfl rfl d_Gat_setMark_16 (fun H locs hW hS => ?_)
  have hW : gW g A ad np (gu (gu a 0 29 (a 0 20)) 0 30 (a 0 21), x, o) v H := hW
  refine lv_aload_n hx hb d_Gat_setMark_19 rfl (lv_at hl 0 rfl) ?_
  refine lv_aload_n hx hb d_Gat_setMark_20 rfl (lv_at hl 0 rfl) ?_
  refine gf_Gat_27 X hW  d_Gat_setMark_21 ?_
  refine gf_Gat_77 (z := a 0 23) X hW (by omega) rfl (gv_0_0_23 _) rfl rfl d_Gat_setMark_24 ?_
  refine pf_Gat_131 (z := a 0 23) X hW hS  (gv_0_0_31 _) rfl rfl rfl d_Gat_setMark_27 (fun H locs hW hS => ?_)
  have hW : gW g A ad np (gu (gu (gu a 0 29 (a 0 20)) 0 30 (a 0 21)) 0 31 (a 0 23), x, o) v H := hW
  refine lv_aload_n hx hb d_Gat_setMark_30 rfl (lv_at hl 0 rfl) ?_
  refine lv_aload_n hx hb d_Gat_setMark_31 rfl (lv_at hl 0 rfl) ?_
  refine gf_Gat_30 X hW  d_Gat_setMark_32 ?_
  refine gf_Gat_77 (z := a 0 25) X hW (by omega) rfl (gv_0_0_25 _) rfl rfl d_Gat_setMark_35 ?_
  refine pf_Gat_134 (z := a 0 25) X hW hS  (gv_0_0_32 _) rfl rfl rfl d_Gat_setMark_38 (fun H locs hW hS => ?_)
  have hW : gW g A ad np (gu (gu (gu (gu a 0 29 (a 0 20)) 0 30 (a 0 21)) 0 31 (a 0 23)) 0 32 (a 0 25), x, o) v H := hW
  have hW := gW_33 0 hW
  refine hret ((gu (gu (gu (gu (gu a 0 29 (a 0 20)) 0 30 (a 0 21)) 0 31 (a 0 23)) 0 32 (a 0 25)) 0 33 0, x, o), v) _ _ _ _ ?_ hW hS d_Gat_setMark_41
  exact rfl
theorem C_Gat_setMark (l : Launch) {g : gG} {A : Nat → Prop} {ad : Nat → Nat} {np : Nat} {a x : gA} {o : gL} {v : gS}  : CtV l y_Gat_setMark b_Gat_setMark 1 0 [.ref (ad 24)] g A ad np (a, x, o) v (fun t => t = ((sMk a, x, o), v)) := mkV (by decide) rfl (Nat.le_of_ble_eq_true rfl) (B_Gat_setMark l )

set_option maxHeartbeats 400000 in
set_option maxRecDepth 20000 in
theorem B_Gat_fetch (l : Launch) {g : gG} {A : Nat → Prop} {ad : Nat → Nat} {np : Nat} {a x : gA} {o : gL} {v : gS} {P hh nf : Nat} (hP : P < np) (hnp : np ≤ 32) (hh1 : a 1 P = nI hh) (hh6 : hh < 6) (hnf : a 0 23 = nI nf) (hd : dst (a 14) nf np) : BdV l b_Gat_fetch 4 R_Gat 1 [.ref (ad 24), .int (nI P)] g A ad np (a, x, o) v (fun t => t = ((sFe a P, x, o), v)) := by
  intro p e R s m args below meth c Q ls X hW hS hR hl hret
  have hx := X.1.1
  have hb := X.1.2.1
  have hml := X.1.2.2.1
  have hown := X.1.2.2.2.1
  have hts := X.1.2.2.2.2
  have hK := X.2.1
  have hl : lv_has ls 4 [(0, .ref (ad 24)), (1, .int (nI P))] := hl
  have hnf32 : nf ≤ 32 := Nat.le_trans (dst_le hd hnp) hnp
  refine lv_aload_n hx hb d_Gat_fetch_0 rfl (lv_at hl 0 rfl) ?_
  refine gf_Gat_27 X hW  d_Gat_fetch_1 ?_
  refine lv_iload_n hx hb d_Gat_fetch_4 rfl (lv_at hl 1 rfl) ?_
  refine gc_iV (As := [.int (nI P)]) (b := ad 29) (rest := []) X cw_Gat_88 (C_Row_holds l (u := (a, x, o)) (v := v) (x := nI P) (f := a 14) (gRow_29 np) hnf hnf32 (fun i _ => rfl)) hW hS (gW_recv (ci := 3) (fs := gf3 ad 29) hK hW (by omega) (fun σ τ => ge_3 rfl σ τ) (r := (R_Row, F_Row, 2)) rfl) ⟨Nat.le_trans (Nat.le_of_ble_eq_true rfl) hR.1, Nat.le_trans (Nat.le_of_ble_eq_true rfl) hR.2⟩ rfl hl.1 rfl (Nat.le_of_ble_eq_true rfl) d_Gat_fetch_5 ⟨Nat.zero_le _, Nat.zero_le _⟩ (fun r t H locs hp hW hS => ?_)
  obtain ⟨rfl, rfl⟩ := hp
  have hW : gW g A ad np (a, x, o) v H := hW
  refine lv_if_eq (tgt := 12) hx hb d_Gat_fetch_8 (by decide) (fun h8 => ?_) (fun h8 => ?_)
  · -- 8 t
    have h8 : (pEq (a 14) (nI P) nf) = false := bI_0 h8
    have hr32 : nf < 32 := dst_room hd hP rfl h8 hnp
    refine lv_aload_n hx hb d_Gat_fetch_12 rfl (lv_at hl 0 rfl) ?_
    refine gf_Gat_9 X hW  d_Gat_fetch_13 ?_
    refine gf_Gat_95 X hW  d_Gat_fetch_16 ?_
    refine lv_iload_n hx hb d_Gat_fetch_19 rfl (lv_at hl 1 rfl) ?_
    refine gy_aP (i := P) hx hb hK hW (by omega) hnp rfl d_Gat_fetch_20 ?_
    refine gf_Gat_137 (z := nI hh) X hW (by unfold gp; omega) (gk_p0 P) (gv_0_1 (by omega)) (gi_0_1 _) hh1 d_Gat_fetch_21 ?_
    refine lv_istore_n hx hb d_Gat_fetch_24 rfl hl (by decide) rfl (fun ls hl => ?_)
    have hl : lv_has ls 4 [(2, .int (nI hh)), (0, .ref (ad 24)), (1, .int (nI P))] := hl
    refine lv_aload_n hx hb d_Gat_fetch_25 rfl (lv_at hl 1 rfl) ?_
    refine gf_Gat_56 (z := a 0 26) X hW  (gv_0_0_26 _) rfl rfl d_Gat_fetch_26 ?_
    refine lv_aload_n hx hb d_Gat_fetch_29 rfl (lv_at hl 1 rfl) ?_
    refine gf_Gat_33 X hW  d_Gat_fetch_30 ?_
    refine lv_iload_n hx hb d_Gat_fetch_33 rfl (lv_at hl 0 rfl) ?_
    refine gy_ia (z := a 16 hh) (q := (0, 16, hh)) hx hb hK hW (by omega) rfl (show vp_in _ 6 from vp_in_nI (by omega) (by decide)) (gv_0_16 (by omega)) ((gi_0_16 _).trans (by rw [nI_clamp (by omega)])) rfl d_Gat_fetch_34 ?_
    refine va_mmax hx hb (hml.trans hl.1.symm) hown (hts _ w_Gat_math_140) (hts _ w_math_max_static) (hts _ w_math_init) (hts _ w_math_max_code) (Nat.le_trans (Nat.le_of_ble_eq_true rfl) hR.1) (Nat.le_trans (Nat.le_of_ble_eq_true rfl) hR.2) (Nat.zero_le _) (Nat.zero_le _) d_Gat_fetch_35 ?_
    rw [show (if (a 0 26) < (a 16 hh) then a 16 hh else a 0 26) = tm a hh from rfl]
    refine lv_istore_n hx hb d_Gat_fetch_38 rfl hl (by decide) rfl (fun ls hl => ?_)
    have hl : lv_has ls 4 [(3, .int (tm a hh)), (2, .int (nI hh)), (0, .ref (ad 24)), (1, .int (nI P))] := hl
    refine lv_aload_n hx hb d_Gat_fetch_39 rfl (lv_at hl 2 rfl) ?_
    refine gf_Gat_33 X hW  d_Gat_fetch_40 ?_
    refine lv_iload_n hx hb d_Gat_fetch_43 rfl (lv_at hl 1 rfl) ?_
    refine lv_iload_n hx hb d_Gat_fetch_44 rfl (lv_at hl 0 rfl) ?_
    refine lv_aload_n hx hb d_Gat_fetch_45 rfl (lv_at hl 2 rfl) ?_
    refine gf_Gat_44 (z := a 0 16) X hW  (gv_0_0_16 _) rfl rfl d_Gat_fetch_46 ?_
    refine lv_iadd hx hb d_Gat_fetch_49 ?_
    refine gy_is (z := (tm a hh) + (a 0 16)) (q := (0, 16, hh)) hx hb hK hW hS (by omega) rfl (show vp_in _ 6 from vp_in_nI (by omega) (by decide)) (gv_0_16 (by omega)) ((gi_0_16 _).trans (by rw [nI_clamp (by omega)])) d_Gat_fetch_50 (fun H locs hW hS => ?_)
    have hW : gW g A ad np (gu a 16 hh ((tm a hh) + (a 0 16)), x, o) v H := hW
    refine lv_aload_n hx hb d_Gat_fetch_51 rfl (lv_at hl 2 rfl) ?_
    refine lv_iload_n hx hb d_Gat_fetch_52 rfl (lv_at hl 0 rfl) ?_
    refine lv_iconst (v := 1) hx hb d_Gat_fetch_53 (by decide) ?_
    refine lv_iadd hx hb d_Gat_fetch_54 ?_
    refine pf_Gat_56 (z := (tm a hh) + 1) X hW hS  (gv_0_0_26 _) rfl rfl rfl d_Gat_fetch_55 (fun H locs hW hS => ?_)
    have hW : gW g A ad np (gu (gu a 16 hh ((tm a hh) + (a 0 16))) 0 26 ((tm a hh) + 1), x, o) v H := hW
    refine lv_aload_n hx hb d_Gat_fetch_58 rfl (lv_at hl 2 rfl) ?_
    refine gf_Gat_27 X hW  d_Gat_fetch_59 ?_
    refine lv_iload_n hx hb d_Gat_fetch_62 rfl (lv_at hl 3 rfl) ?_
    refine gc_iV (As := [.int (nI P)]) (b := ad 29) (rest := []) X cw_Gat_92 (C_Row_add l (u := (gu (gu a 16 hh ((tm a hh) + (a 0 16))) 0 26 ((tm a hh) + 1), x, o)) (v := v) (x := nI P) (n := nf) (gRow_29 np) hnf hnf32) hW hS (gW_recv (ci := 3) (fs := gf3 ad 29) hK hW (by omega) (fun σ τ => ge_3 rfl σ τ) (r := (R_Row, F_Row, 2)) rfl) ⟨Nat.le_trans (Nat.le_of_ble_eq_true rfl) hR.1, Nat.le_trans (Nat.le_of_ble_eq_true rfl) hR.2⟩ rfl hl.1 rfl (Nat.le_of_ble_eq_true rfl) d_Gat_fetch_63 ⟨Nat.zero_le _, Nat.zero_le _⟩ (fun r t H locs hp hW hS => ?_)
    obtain ⟨rfl, rfl⟩ := hp.1 hr32
    have hW : gW g A ad np (gu (gu (gu (gu a 16 hh ((tm a hh) + (a 0 16))) 0 26 ((tm a hh) + 1)) 14 nf (nI P)) 0 23 (nI (nf + 1)), x, o) v H := hW
    refine lv_pop hx hb d_Gat_fetch_66 rfl ?_
    refine lv_aload_n hx hb d_Gat_fetch_67 rfl (lv_at hl 2 rfl) ?_
    refine lv_dup hx hb d_Gat_fetch_68 rfl ?_
    refine gf_Gat_59 (z := a 0 28) X hW  (gv_0_0_28 _) rfl rfl d_Gat_fetch_69 ?_
    refine lv_iconst (v := 1) hx hb d_Gat_fetch_72 (by decide) ?_
    refine lv_iadd hx hb d_Gat_fetch_73 ?_
    refine pf_Gat_59 (z := (a 0 28) + 1) X hW hS  (gv_0_0_28 _) rfl rfl rfl d_Gat_fetch_74 (fun H locs hW hS => ?_)
    have hW : gW g A ad np (gu (gu (gu (gu (gu a 16 hh ((tm a hh) + (a 0 16))) 0 26 ((tm a hh) + 1)) 14 nf (nI P)) 0 23 (nI (nf + 1))) 0 28 ((a 0 28) + 1), x, o) v H := hW
    refine hret ((gu (gu (gu (gu (gu a 16 hh ((tm a hh) + (a 0 16))) 0 26 ((tm a hh) + 1)) 14 nf (nI P)) 0 23 (nI (nf + 1))) 0 28 ((a 0 28) + 1), x, o), v) _ _ _ _ ?_ hW hS d_Gat_fetch_77
    rw [sFe_n hnf (by omega) hh1 hh6 h8]
    exact rfl
  · -- 8 f
    have h8 : (pEq (a 14) (nI P) nf) = true := bI_n0 h8
    refine hret ((a, x, o), v) _ _ _ _ ?_ hW hS d_Gat_fetch_11
    rw [sFe_y hnf (by omega) h8]
theorem C_Gat_fetch (l : Launch) {g : gG} {A : Nat → Prop} {ad : Nat → Nat} {np : Nat} {a x : gA} {o : gL} {v : gS} {P hh nf : Nat} (hP : P < np) (hnp : np ≤ 32) (hh1 : a 1 P = nI hh) (hh6 : hh < 6) (hnf : a 0 23 = nI nf) (hd : dst (a 14) nf np) : CtV l y_Gat_fetch b_Gat_fetch 4 1 [.ref (ad 24), .int (nI P)] g A ad np (a, x, o) v (fun t => t = ((sFe a P, x, o), v)) := mkV (by decide) rfl (Nat.le_of_ble_eq_true rfl) (B_Gat_fetch l hP hnp hh1 hh6 hnf hd)

set_option maxHeartbeats 400000 in
set_option maxRecDepth 20000 in
theorem B_Gat_enqueueAll (l : Launch) {g : gG} {A : Nat → Prop} {ad : Nat → Nat} {np : Nat} {a x : gA} {o : gL} {v : gS} {k n cap : Nat} {q0 : Nat × Nat × Nat} {lo : Nat → Nat × Nat × Nat} {f : Nat → Int32} {w : Int32} {n0 : Nat} (hnp : np ≤ 32) (hr : gRow np k q0 lo cap) (hc : n ≤ cap) (hst : ∀ a' x', qk a a' → gr (a', x', o) v q0 = nI n ∧ ∀ i, i < cap → gr (a', x', o) v (lo i) = f i) (hf : ∀ i, i < n → ∃ q, q < np ∧ f i = nI q) (hn0 : a 0 21 = nI n0) (hx0 : x 2 0 = nI n0) (hd0 : dst (a 12) n0 np) : BdV l b_Gat_enqueueAll 5 R_Gat 1 [.ref (ad 24), .ref (ad k), .int w] g A ad np (a, x, o) v (fun t => ∃ x' nq, t = ((sQA f w a n, x', o), v) ∧ (∀ r j, ¬ (r = 2 ∧ j = 0) → x' r j = x r j) ∧ x' 2 0 = nI nq ∧ sQA f w a n 0 21 = nI nq ∧ dst (sQA f w a n 12) nq np) := by
  intro p e R s m args below meth c Q ls X hW hS hR hl hret
  have hx := X.1.1
  have hb := X.1.2.1
  have hml := X.1.2.2.1
  have hown := X.1.2.2.2.1
  have hts := X.1.2.2.2.2
  have hK := X.2.1
  have hl : lv_has ls 5 [(0, .ref (ad 24)), (1, .ref (ad k)), (2, .int w)] := hl
  have hcap := hr.2.2.2.2.1
  refine lv_iconst (v := 0) hx hb d_Gat_enqueueAll_0 (by decide) ?_
  refine lv_istore_n hx hb d_Gat_enqueueAll_1 rfl hl (by decide) rfl (fun ls hl => ?_)
  have hl : lv_has ls 5 [(3, .int 0), (0, .ref (ad 24)), (1, .ref (ad k)), (2, .int w)] := hl
  have lp2 : ∀ (fuel : Nat) (i : Nat) (x1 : gA) (nq : Nat) (ls : Array Slot) (H : Heap) (locs : List Loc), (i ≤ n) → (∀ r j, ¬ (r = 2 ∧ j = 0) → x1 r j = x r j) → (x1 2 0 = nI nq) → (sQA f w a i 0 21 = nI nq) → (dst (sQA f w a i 12) nq np) → n - i < fuel → lv_has ls 5 [(0, .ref (ad 24)), (1, .ref (ad k)), (2, .int w), (3, .int (nI i))] → gW g A ad np (sQA f w a i, x1, o) v H → va_S A s.heap H locs → W p l e R s m args below meth c H locs 0 0 Q (F0 m 2 ls []) := by
    intro fuel
    induction fuel with
    | zero => intro i x1 nq ls H locs _ _ _ _ _ hfu; exact absurd hfu (Nat.not_lt_zero _)
    | succ fuel ih =>
      intro i x1 nq ls H locs hi hxk hxq hq0 hd hfu hl hW hS
      refine lv_iload_n hx hb d_Gat_enqueueAll_2 rfl (lv_at hl 3 rfl) ?_
      refine lv_aload_n hx hb d_Gat_enqueueAll_3 rfl (lv_at hl 1 rfl) ?_
      refine gf_Gat_77 (z := nI n) X hW (Nat.lt_trans (Nat.lt_succ_self _) hr.1) hr.2.1 hr.2.2.2.2.2.1 hr.2.2.2.2.2.2.1 (hst _ x1 (qk_sQA f w a i)).1 d_Gat_enqueueAll_4 ?_
      refine lv_icmp_ge (tgt := 54) hx hb d_Gat_enqueueAll_7 (by decide) (fun h7 => ?_) (fun h7 => ?_)
      · -- 7 t
        have h7 : n ≤ i := (nI_leI (a := n) (b := i) (by omega) (by omega)).mp h7
        refine hret ((sQA f w a i, x1, o), v) _ _ _ _ ?_ hW hS d_Gat_enqueueAll_54
        rw [show n = i by omega]
        exact ⟨x1, nq, rfl, hxk, hxq, hq0, hd⟩
      · -- 7 f
        have h7 : i < n := Nat.lt_of_not_le fun q => h7 ((nI_leI (a := n) (b := i) (by omega) (by omega)).mpr q)
        have hnq : nq ≤ 32 := Nat.le_trans (dst_le hd hnp) hnp
        obtain ⟨qi, hqi, hfi⟩ := hf i (by omega)
        refine lv_aload_n hx hb d_Gat_enqueueAll_10 rfl (lv_at hl 1 rfl) ?_
        refine lv_iload_n hx hb d_Gat_enqueueAll_11 rfl (lv_at hl 3 rfl) ?_
        refine gc_iV (As := [.int (nI i)]) (b := ad k) (rest := []) X cw_Gat_80 (C_Row_at l (u := (sQA f w a i, x1, o)) (v := v) (x := nI i) hr (hst _ x1 (qk_sQA f w a i)).1 hc (hst _ x1 (qk_sQA f w a i)).2) hW hS (gW_recv (ci := 3) (fs := gf3 ad k) hK hW (Nat.lt_trans (Nat.lt_succ_self _) hr.1) (fun σ τ => ge_3 hr.2.1 σ τ) (r := (R_Row, F_Row, 2)) rfl) ⟨Nat.le_trans (Nat.le_of_ble_eq_true rfl) hR.1, Nat.le_trans (Nat.le_of_ble_eq_true rfl) hR.2⟩ rfl hl.1 rfl (Nat.le_of_ble_eq_true rfl) d_Gat_enqueueAll_12 ⟨Nat.zero_le _, Nat.zero_le _⟩ (fun r t H locs hp hW hS => ?_)
        obtain ⟨rfl, hr9⟩ := hp
        rw [at_in (by omega) (by omega)] at hr9
        subst hr9
        have hW : gW g A ad np (sQA f w a i, x1, o) v H := hW
        refine lv_istore hx hb d_Gat_enqueueAll_15 hl (by decide) rfl (fun ls hl => ?_)
        have hl : lv_has ls 5 [(4, .int (f i)), (0, .ref (ad 24)), (1, .ref (ad k)), (2, .int w), (3, .int (nI i))] := hl
        refine lv_aload_n hx hb d_Gat_enqueueAll_17 rfl (lv_at hl 1 rfl) ?_
        refine gf_Gat_20 X hW  d_Gat_enqueueAll_18 ?_
        refine lv_iload hx hb d_Gat_enqueueAll_21 (lv_at hl 0 rfl) ?_
        refine gc_iV (As := [.int (f i)]) (b := ad 25) (rest := []) X cw_Gat_88 (C_Row_holds l (u := (sQA f w a i, x1, o)) (v := v) (x := f i) (f := sQA f w a i 12) (gRow_25 np) hq0 hnq (fun i _ => rfl)) hW hS (gW_recv (ci := 3) (fs := gf3 ad 25) hK hW (by omega) (fun σ τ => ge_3 rfl σ τ) (r := (R_Row, F_Row, 2)) rfl) ⟨Nat.le_trans (Nat.le_of_ble_eq_true rfl) hR.1, Nat.le_trans (Nat.le_of_ble_eq_true rfl) hR.2⟩ rfl hl.1 rfl (Nat.le_of_ble_eq_true rfl) d_Gat_enqueueAll_23 ⟨Nat.zero_le _, Nat.zero_le _⟩ (fun r t H locs hp hW hS => ?_)
        obtain ⟨rfl, rfl⟩ := hp
        have hW : gW g A ad np (sQA f w a i, x1, o) v H := hW
        refine lv_if_ne (tgt := 48) hx hb d_Gat_enqueueAll_26 (by decide) (fun h26 => ?_) (fun h26 => ?_)
        · -- 26 t
          have h26 : (pEq (sQA f w a i 12) (f i) nq) = true := bI_n0 h26
          refine lv_iinc (v := nI (i + 1)) (k := 4) hx hb d_Gat_enqueueAll_48 hl rfl (nI_inc i) (by decide) rfl (fun ls hl => ?_)
          have hl : lv_has ls 5 [(3, .int (nI (i + 1))), (4, .int (f i)), (0, .ref (ad 24)), (1, .ref (ad k)), (2, .int w)] := hl
          refine lv_goto (tgt := 2) hx hb d_Gat_enqueueAll_51 (by decide) ?_
          have e9 : sQA f w a (i + 1) = _ := sQ_y hq0 (by omega) h26
          exact ih (i + 1) x1 nq _ _ _ (by omega) hxk hxq (by rw [e9]; exact hq0) (by rw [e9]; exact hd) (by omega) (lv_sub hl [2, 3, 4, 0] rfl) (by rw [e9]; exact hW) hS
        · -- 26 f
          have h26 : (pEq (sQA f w a i 12) (f i) nq) = false := bI_0 h26
          have hr32 : nq < 32 := dst_room hd hqi hfi h26 hnp
          refine lv_aload_n hx hb d_Gat_enqueueAll_29 rfl (lv_at hl 1 rfl) ?_
          refine gf_Gat_20 X hW  d_Gat_enqueueAll_30 ?_
          refine lv_iload hx hb d_Gat_enqueueAll_33 (lv_at hl 0 rfl) ?_
          refine gc_iV (As := [.int (f i)]) (b := ad 25) (rest := []) X cw_Gat_92 (C_Row_add l (u := (sQA f w a i, x1, o)) (v := v) (x := f i) (n := nq) (gRow_25 np) hq0 hnq) hW hS (gW_recv (ci := 3) (fs := gf3 ad 25) hK hW (by omega) (fun σ τ => ge_3 rfl σ τ) (r := (R_Row, F_Row, 2)) rfl) ⟨Nat.le_trans (Nat.le_of_ble_eq_true rfl) hR.1, Nat.le_trans (Nat.le_of_ble_eq_true rfl) hR.2⟩ rfl hl.1 rfl (Nat.le_of_ble_eq_true rfl) d_Gat_enqueueAll_35 ⟨Nat.zero_le _, Nat.zero_le _⟩ (fun r t H locs hp hW hS => ?_)
          obtain ⟨rfl, rfl⟩ := hp.1 hr32
          have hW : gW g A ad np (gu (gu (sQA f w a i) 12 nq (f i)) 0 21 (nI (nq + 1)), x1, o) v H := hW
          refine lv_pop hx hb d_Gat_enqueueAll_38 rfl ?_
          refine lv_aload_n hx hb d_Gat_enqueueAll_39 rfl (lv_at hl 1 rfl) ?_
          refine gf_Gat_24 X hW  d_Gat_enqueueAll_40 ?_
          refine lv_iload_n hx hb d_Gat_enqueueAll_43 rfl (lv_at hl 3 rfl) ?_
          refine gc_iV (As := [.int w]) (b := ad 27) (rest := []) X cw_Gat_92 (C_Row_add l (u := (gu (gu (sQA f w a i) 12 nq (f i)) 0 21 (nI (nq + 1)), x1, o)) (v := v) (x := w) (n := nq) (gRow_27 np) hxq hnq) hW hS (gW_recv (ci := 3) (fs := gf3 ad 27) hK hW (by omega) (fun σ τ => ge_3 rfl σ τ) (r := (R_Row, F_Row, 2)) rfl) ⟨Nat.le_trans (Nat.le_of_ble_eq_true rfl) hR.1, Nat.le_trans (Nat.le_of_ble_eq_true rfl) hR.2⟩ rfl hl.1 rfl (Nat.le_of_ble_eq_true rfl) d_Gat_enqueueAll_44 ⟨Nat.zero_le _, Nat.zero_le _⟩ (fun r t H locs hp hW hS => ?_)
          obtain ⟨rfl, rfl⟩ := hp.1 hr32
          have hW : gW g A ad np (gu (gu (gu (sQA f w a i) 12 nq (f i)) 0 21 (nI (nq + 1))) 13 nq w, gu x1 2 0 (nI (nq + 1)), o) v H := hW
          refine lv_pop hx hb d_Gat_enqueueAll_47 rfl ?_
          refine lv_iinc (v := nI (i + 1)) (k := 4) hx hb d_Gat_enqueueAll_48 hl rfl (nI_inc i) (by decide) rfl (fun ls hl => ?_)
          have hl : lv_has ls 5 [(3, .int (nI (i + 1))), (4, .int (f i)), (0, .ref (ad 24)), (1, .ref (ad k)), (2, .int w)] := hl
          refine lv_goto (tgt := 2) hx hb d_Gat_enqueueAll_51 (by decide) ?_
          have e9 : sQA f w a (i + 1) = _ := sQ_n hq0 (by omega) h26
          exact ih (i + 1) (gu x1 2 0 (nI (nq + 1))) (nq + 1) _ _ _ (by omega) (fun r j q => (gu_off q).trans (hxk r j q)) (gu_hit _ _ _ _) (by rw [e9]; rfl) (by rw [e9]; exact dst_push hd hqi hfi h26) (by omega) (lv_sub hl [2, 3, 4, 0] rfl) (by rw [e9]; exact hW) hS
  exact lp2 _ 0 x n0 _ _ _ (Nat.zero_le _) (fun _ _ _ => rfl) hx0 hn0 hd0 (Nat.lt_succ_self _) (lv_sub hl [1, 2, 3, 0] rfl) hW hS
theorem C_Gat_enqueueAll (l : Launch) {g : gG} {A : Nat → Prop} {ad : Nat → Nat} {np : Nat} {a x : gA} {o : gL} {v : gS} {k n cap : Nat} {q0 : Nat × Nat × Nat} {lo : Nat → Nat × Nat × Nat} {f : Nat → Int32} {w : Int32} {n0 : Nat} (hnp : np ≤ 32) (hr : gRow np k q0 lo cap) (hc : n ≤ cap) (hst : ∀ a' x', qk a a' → gr (a', x', o) v q0 = nI n ∧ ∀ i, i < cap → gr (a', x', o) v (lo i) = f i) (hf : ∀ i, i < n → ∃ q, q < np ∧ f i = nI q) (hn0 : a 0 21 = nI n0) (hx0 : x 2 0 = nI n0) (hd0 : dst (a 12) n0 np) : CtV l y_Gat_enqueueAll b_Gat_enqueueAll 5 1 [.ref (ad 24), .ref (ad k), .int w] g A ad np (a, x, o) v (fun t => ∃ x' nq, t = ((sQA f w a n, x', o), v) ∧ (∀ r j, ¬ (r = 2 ∧ j = 0) → x' r j = x r j) ∧ x' 2 0 = nI nq ∧ sQA f w a n 0 21 = nI nq ∧ dst (sQA f w a n 12) nq np) := mkV (by decide) rfl (Nat.le_of_ble_eq_true rfl) (B_Gat_enqueueAll l hnp hr hc hst hf hn0 hx0 hd0)

set_option maxHeartbeats 400000 in
set_option maxRecDepth 20000 in
theorem B_Gat_chase0 (l : Launch) {g : gG} {A : Nat → Prop} {ad : Nat → Nat} {np : Nat} {a x : gA} {o : gL} {v : gS} {P hp0 : Nat} (hw : WFw np a) (hwx : WX np a x) (hhp : a 0 15 = nI hp0) (hhp4 : hp0 ≤ 4) (hP : P < np) : BdI l b_Gat_chase 6 R_Gat 3 [.ref (ad 24), .int (nI P), .int 0] g A ad np (a, x, o) v (fun r t => t = ((a, x, o), v) ∧ r = sC2 a (hp0 + 1) P) := by
  intro p e R s m args below meth c Q ls X hW hS hR hl hret
  have hx := X.1.1
  have hb := X.1.2.1
  have hml := X.1.2.2.1
  have hown := X.1.2.2.2.1
  have hts := X.1.2.2.2.2
  have hK := X.2.1
  have hl : lv_has ls 6 [(0, .ref (ad 24)), (1, .int (nI P)), (2, .int 0)] := hl
  have hnp := hw.1
  refine lv_iload_n hx hb d_Gat_chase_0 rfl (lv_at hl 1 rfl) ?_
  refine lv_istore_n hx hb d_Gat_chase_1 rfl hl (by decide) rfl (fun ls hl => ?_)
  have hl : lv_has ls 6 [(3, .int (nI P)), (0, .ref (ad 24)), (1, .int (nI P)), (2, .int 0)] := hl
  refine lv_iconst (v := 0) hx hb d_Gat_chase_2 (by decide) ?_
  refine lv_istore hx hb d_Gat_chase_3 hl (by decide) rfl (fun ls hl => ?_)
  have hl : lv_has ls 6 [(4, .int 0), (3, .int (nI P)), (0, .ref (ad 24)), (1, .int (nI P)), (2, .int 0)] := hl
  have lp5 : ∀ (fuel : Nat) (k : Nat) (n : Nat) (P1 : Nat) (ls : Array Slot) (H : Heap) (locs : List Loc), (k + n = hp0 + 1) → (P1 < np) → (sC2 a (hp0 + 1) P = sC2 a n P1) → n < fuel → lv_has ls 6 [(0, .ref (ad 24)), (2, .int 0), (3, .int (nI P1)), (4, .int (nI k))] → gW g A ad np (a, x, o) v H → va_S A s.heap H locs → W p l e R s m args below meth c H locs 0 0 Q (F0 m 5 ls []) := by
    intro fuel
    induction fuel with
    | zero => intro k n P1 ls H locs _ _ _ hfu; exact absurd hfu (Nat.not_lt_zero _)
    | succ fuel ih =>
      intro k n P1 ls H locs hkn hP1 he hfu hl hW hS
      refine lv_iload hx hb d_Gat_chase_5 (lv_at hl 3 rfl) ?_
      refine lv_aload_n hx hb d_Gat_chase_7 rfl (lv_at hl 0 rfl) ?_
      refine gf_Gat_41 (z := nI hp0) X hW  (gv_0_0_15 _) rfl hhp d_Gat_chase_8 ?_
      refine lv_icmp_gt (tgt := 83) hx hb d_Gat_chase_11 (by decide) (fun h11 => ?_) (fun h11 => ?_)
      · -- 11 t
        have h11 : hp0 < k := (nI_ltI (a := hp0) (b := k) (by omega) (by omega)).mp h11
        refine lv_iconst (v := (-1)) hx hb d_Gat_chase_83 (by decide) ?_
        refine hret (-1) ((a, x, o), v) _ _ _ _ ?_ hW hS d_Gat_chase_84
        refine ⟨rfl, ?_⟩
        rw [he]
        cases n with
        | zero => rfl
        | succ n' =>
          show _ = (if _ then _ else _)
          rw [if_pos (by first | exact h22 | exact absurd h11 (by omega))]
      · -- 11 f
        have h11 : k ≤ hp0 := Nat.le_of_not_lt fun q => h11 ((nI_ltI (a := hp0) (b := k) (by omega) (by omega)).mpr q)
        refine lv_aload_n hx hb d_Gat_chase_14 rfl (lv_at hl 0 rfl) ?_
        refine gf_Gat_9 X hW  d_Gat_chase_15 ?_
        refine lv_iload_n hx hb d_Gat_chase_18 rfl (lv_at hl 2 rfl) ?_
        refine gc_iV (As := [.int (nI P1)]) (b := ad 1) (rest := []) X cw_Gat_107 (C_Web_isAllowed l (a := a) (x := x) (o := o) (v := v) hw hP1) hW hS (gW_recv (ci := 1) (fs := gf1 ad) hK hW (by omega) (fun σ τ => ge_1 rfl σ τ) (r := (R_Web, F_Web, 4)) rfl) ⟨Nat.le_trans (Nat.le_of_ble_eq_true rfl) hR.1, Nat.le_trans (Nat.le_of_ble_eq_true rfl) hR.2⟩ rfl hl.1 rfl (Nat.le_of_ble_eq_true rfl) d_Gat_chase_19 ⟨Nat.zero_le _, Nat.zero_le _⟩ (fun r t H locs hp hW hS => ?_)
        obtain ⟨rfl, rfl⟩ := hp
        have hW : gW g A ad np (a, x, o) v H := hW
        refine lv_if_eq (tgt := 83) hx hb d_Gat_chase_22 (by decide) (fun h22 => ?_) (fun h22 => ?_)
        · -- 22 t
          have h22 : (sAlw a P1) = false := bI_0 h22
          refine lv_iconst (v := (-1)) hx hb d_Gat_chase_83 (by decide) ?_
          refine hret (-1) ((a, x, o), v) _ _ _ _ ?_ hW hS d_Gat_chase_84
          refine ⟨rfl, ?_⟩
          rw [he]
          cases n with
          | zero => rfl
          | succ n' =>
            show _ = (if _ then _ else _)
            rw [if_pos (by first | exact h22 | exact absurd h11 (by omega))]
        · -- 22 f
          have h22 : (sAlw a P1) = true := bI_n0 h22
          refine lv_iload_n hx hb d_Gat_chase_25 rfl (lv_at hl 1 rfl) ?_
          refine lv_if_eq (tgt := 34) hx hb d_Gat_chase_26 (by decide) (fun h26 => ?_) (fun h26 => ?_)
          · -- 26 t
            obtain ⟨c9, hc3, hc9, hcH, hcG, hcM⟩ := WX_code hwx hnp hP1
            refine lv_aload_n hx hb d_Gat_chase_34 rfl (lv_at hl 0 rfl) ?_
            refine gf_Gat_9 X hW  d_Gat_chase_35 ?_
            refine gf_Gat_95 X hW  d_Gat_chase_38 ?_
            refine lv_iload_n hx hb d_Gat_chase_41 rfl (lv_at hl 2 rfl) ?_
            refine gy_aP (i := P1) hx hb hK hW (by omega) hnp rfl d_Gat_chase_42 ?_
            refine lv_astore hx hb d_Gat_chase_43 hl (by decide) rfl (fun ls hl => ?_)
            have hl : lv_has ls 6 [(5, .ref (ad (gp P1))), (0, .ref (ad 24)), (2, .int 0), (3, .int (nI P1)), (4, .int (nI k))] := hl
            refine lv_aload hx hb d_Gat_chase_45 (lv_at hl 0 rfl) ?_
            refine gf_Gat_113 (z := nI c9) X hW (by unfold gp; omega) (gk_p0 P1) (gv_1_0 (by omega)) (gi_1_0 _) hc9 d_Gat_chase_47 ?_
            refine gs_Gat_117 X hS d_Gat_chase_50 ?_
            refine lv_acmp_ne (rx := some (g.2.2 ((nI c9).toNatClampNeg))) (ry := some (g.2.2 0)) (tgt := 58) hx hb d_Gat_chase_53 (by decide) (fun h53 => ?_) (fun h53 => ?_)
            · -- 53 t
              have h53 : ¬ c9 = 0 := fun q => h53 ((en_eq X.2.2.1 hc3 (by decide)).mpr q)
              refine lv_aload hx hb d_Gat_chase_58 (lv_at hl 0 rfl) ?_
              refine gf_Gat_113 (z := nI c9) X hW (by unfold gp; omega) (gk_p0 P1) (gv_1_0 (by omega)) (gi_1_0 _) hc9 d_Gat_chase_60 ?_
              refine gs_Gat_122 X hS d_Gat_chase_63 ?_
              refine lv_acmp_ne (rx := some (g.2.2 ((nI c9).toNatClampNeg))) (ry := some (g.2.2 2)) (tgt := 71) hx hb d_Gat_chase_66 (by decide) (fun h66 => ?_) (fun h66 => ?_)
              · -- 66 t
                have h66 : ¬ c9 = 2 := fun q => h66 ((en_eq X.2.2.1 hc3 (by decide)).mpr q)
                obtain ⟨q9, hq9, e9, e10⟩ := hcM (by omega)
                refine lv_aload hx hb d_Gat_chase_71 (lv_at hl 0 rfl) ?_
                refine gf_Gat_125 (z := nI q9) X hW (by unfold gp; omega) (gk_p0 P1) (gv_1_1 (by omega)) (gi_1_1 _) e10 d_Gat_chase_73 ?_
                refine lv_istore_n hx hb d_Gat_chase_76 rfl hl (by decide) rfl (fun ls hl => ?_)
                have hl : lv_has ls 6 [(3, .int (nI q9)), (5, .ref (ad (gp P1))), (0, .ref (ad 24)), (2, .int 0), (4, .int (nI k))] := hl
                refine lv_iinc (v := nI (k + 1)) (k := 4) hx hb d_Gat_chase_77 hl rfl (nI_inc k) (by decide) rfl (fun ls hl => ?_)
                have hl : lv_has ls 6 [(4, .int (nI (k + 1))), (3, .int (nI q9)), (5, .ref (ad (gp P1))), (0, .ref (ad 24)), (2, .int 0)] := hl
                refine lv_goto (tgt := 5) hx hb d_Gat_chase_80 (by decide) ?_
                obtain ⟨n', rfl⟩ : ∃ n', n = n' + 1 := ⟨n - 1, by omega⟩
                exact ih (k + 1) n' q9 _ _ _ (by omega) hq9 (by rw [he]; show (if _ then _ else _) = _; rw [if_neg (by rw [h22]; decide), if_neg (fun q => h53 (hcH.mpr q)), if_neg (fun q => h66 (hcG.mpr q)), e9, nI_clamp (by omega)]) (by omega) (lv_sub hl [3, 4, 1, 0] rfl) hW hS
              · -- 66 f
                have h66 : c9 = 2 := (en_eq X.2.2.1 hc3 (by decide)).mp h66
                refine lv_iconst (v := (-1)) hx hb d_Gat_chase_69 (by decide) ?_
                refine hret (-1) ((a, x, o), v) _ _ _ _ ?_ hW hS d_Gat_chase_70
                obtain ⟨n', rfl⟩ : ∃ n', n = n' + 1 := ⟨n - 1, by omega⟩
                refine ⟨rfl, ?_⟩
                rw [he]
                show _ = (if _ then _ else _)
                rw [if_neg (by rw [h22]; decide), if_neg (fun q => h53 (hcH.mpr q)), if_pos (hcG.mp h66)]
            · -- 53 f
              have h53 : c9 = 0 := (en_eq X.2.2.1 hc3 (by decide)).mp h53
              refine lv_iload_n hx hb d_Gat_chase_56 rfl (lv_at hl 3 rfl) ?_
              refine hret (nI P1) ((a, x, o), v) _ _ _ _ ?_ hW hS d_Gat_chase_57
              obtain ⟨n', rfl⟩ : ∃ n', n = n' + 1 := ⟨n - 1, by omega⟩
              refine ⟨rfl, ?_⟩
              rw [he]
              show _ = (if _ then _ else _)
              rw [if_neg (by rw [h22]; decide), if_pos (hcH.mp h53)]
          · exact absurd rfl h26
  exact lp5 _ 0 (hp0 + 1) P _ _ _ (by omega) hP rfl (Nat.lt_succ_self _) (lv_sub hl [2, 4, 1, 0] rfl) hW hS
theorem C_Gat_chase0 (l : Launch) {g : gG} {A : Nat → Prop} {ad : Nat → Nat} {np : Nat} {a x : gA} {o : gL} {v : gS} {P hp0 : Nat} (hw : WFw np a) (hwx : WX np a x) (hhp : a 0 15 = nI hp0) (hhp4 : hp0 ≤ 4) (hP : P < np) : CtI l y_Gat_chase b_Gat_chase 6 .int 3 [.ref (ad 24), .int (nI P), .int 0] g A ad np (a, x, o) v (fun r t => t = ((a, x, o), v) ∧ r = sC2 a (hp0 + 1) P) := mkI (by decide) rfl (Nat.le_of_ble_eq_true rfl) (fun _ _ _ => rfl) (B_Gat_chase0 l hw hwx hhp hhp4 hP)

set_option maxHeartbeats 400000 in
set_option maxRecDepth 20000 in
theorem B_Gat_chase1 (l : Launch) {g : gG} {A : Nat → Prop} {ad : Nat → Nat} {np : Nat} {a x : gA} {o : gL} {v : gS} {P hp0 : Nat} {nf0 : Nat} (hw : WFw np a) (hwx : WX np a x) (hhp : a 0 15 = nI hp0) (hhp4 : hp0 ≤ 4) (hP : P < np) (hnf0 : a 0 23 = nI nf0) (hd0 : dst (a 14) nf0 np) : BdI l b_Gat_chase 6 R_Gat 3 [.ref (ad 24), .int (nI P), .int 1] g A ad np (a, x, o) v (fun r t => t = ((sF2 (hp0 + 1) a P, x, o), v) ∧ r = sC2 a (hp0 + 1) P) := by
  intro p e R s m args below meth c Q ls X hW hS hR hl hret
  have hx := X.1.1
  have hb := X.1.2.1
  have hml := X.1.2.2.1
  have hown := X.1.2.2.2.1
  have hts := X.1.2.2.2.2
  have hK := X.2.1
  have hl : lv_has ls 6 [(0, .ref (ad 24)), (1, .int (nI P)), (2, .int 1)] := hl
  have hnp := hw.1
  refine lv_iload_n hx hb d_Gat_chase_0 rfl (lv_at hl 1 rfl) ?_
  refine lv_istore_n hx hb d_Gat_chase_1 rfl hl (by decide) rfl (fun ls hl => ?_)
  have hl : lv_has ls 6 [(3, .int (nI P)), (0, .ref (ad 24)), (1, .int (nI P)), (2, .int 1)] := hl
  refine lv_iconst (v := 0) hx hb d_Gat_chase_2 (by decide) ?_
  refine lv_istore hx hb d_Gat_chase_3 hl (by decide) rfl (fun ls hl => ?_)
  have hl : lv_has ls 6 [(4, .int 0), (3, .int (nI P)), (0, .ref (ad 24)), (1, .int (nI P)), (2, .int 1)] := hl
  have lp5 : ∀ (fuel : Nat) (k : Nat) (n : Nat) (P1 : Nat) (a1 : gA) (nf : Nat) (ls : Array Slot) (H : Heap) (locs : List Loc), (k + n = hp0 + 1) → (P1 < np) → (wk a a1) → (sC2 a (hp0 + 1) P = sC2 a n P1) → (sF2 (hp0 + 1) a P = sF2 n a1 P1) → (a1 0 23 = nI nf) → (dst (a1 14) nf np) → n < fuel → lv_has ls 6 [(0, .ref (ad 24)), (2, .int 1), (3, .int (nI P1)), (4, .int (nI k))] → gW g A ad np (a1, x, o) v H → va_S A s.heap H locs → W p l e R s m args below meth c H locs 0 0 Q (F0 m 5 ls []) := by
    intro fuel
    induction fuel with
    | zero => intro k n P1 a1 nf ls H locs _ _ _ _ _ _ _ hfu; exact absurd hfu (Nat.not_lt_zero _)
    | succ fuel ih =>
      intro k n P1 a1 nf ls H locs hkn hP1 hk he hs hnf hd hfu hl hW hS
      refine lv_iload hx hb d_Gat_chase_5 (lv_at hl 3 rfl) ?_
      refine lv_aload_n hx hb d_Gat_chase_7 rfl (lv_at hl 0 rfl) ?_
      refine gf_Gat_41 (z := nI hp0) X hW  (gv_0_0_15 _) rfl ((hk.2 15 (by decide)).trans hhp) d_Gat_chase_8 ?_
      refine lv_icmp_gt (tgt := 83) hx hb d_Gat_chase_11 (by decide) (fun h11 => ?_) (fun h11 => ?_)
      · -- 11 t
        have h11 : hp0 < k := (nI_ltI (a := hp0) (b := k) (by omega) (by omega)).mp h11
        refine lv_iconst (v := (-1)) hx hb d_Gat_chase_83 (by decide) ?_
        refine hret (-1) ((a1, x, o), v) _ _ _ _ ?_ hW hS d_Gat_chase_84
        cases n with
        | zero => exact ⟨by rw [hs]; rfl, by rw [he]; rfl⟩
        | succ n' =>
          have h22 : sAlw a1 P1 = false := by first | exact h22 | exact absurd h11 (by omega)
          refine ⟨?_, ?_⟩
          · rw [hs]; show _ = ((if _ then _ else _, x, o), v); rw [if_pos h22]
          · rw [he]; show _ = (if _ then _ else _); rw [if_pos (by rw [← sAlw_wk hk]; exact h22)]
      · -- 11 f
        have h11 : k ≤ hp0 := Nat.le_of_not_lt fun q => h11 ((nI_ltI (a := hp0) (b := k) (by omega) (by omega)).mpr q)
        refine lv_aload_n hx hb d_Gat_chase_14 rfl (lv_at hl 0 rfl) ?_
        refine gf_Gat_9 X hW  d_Gat_chase_15 ?_
        refine lv_iload_n hx hb d_Gat_chase_18 rfl (lv_at hl 2 rfl) ?_
        refine gc_iV (As := [.int (nI P1)]) (b := ad 1) (rest := []) X cw_Gat_107 (C_Web_isAllowed l (a := a1) (x := x) (o := o) (v := v) (WFw_wk hk hw) hP1) hW hS (gW_recv (ci := 1) (fs := gf1 ad) hK hW (by omega) (fun σ τ => ge_1 rfl σ τ) (r := (R_Web, F_Web, 4)) rfl) ⟨Nat.le_trans (Nat.le_of_ble_eq_true rfl) hR.1, Nat.le_trans (Nat.le_of_ble_eq_true rfl) hR.2⟩ rfl hl.1 rfl (Nat.le_of_ble_eq_true rfl) d_Gat_chase_19 ⟨Nat.zero_le _, Nat.zero_le _⟩ (fun r t H locs hp hW hS => ?_)
        obtain ⟨rfl, rfl⟩ := hp
        have hW : gW g A ad np (a1, x, o) v H := hW
        refine lv_if_eq (tgt := 83) hx hb d_Gat_chase_22 (by decide) (fun h22 => ?_) (fun h22 => ?_)
        · -- 22 t
          have h22 : (sAlw a1 P1) = false := bI_0 h22
          refine lv_iconst (v := (-1)) hx hb d_Gat_chase_83 (by decide) ?_
          refine hret (-1) ((a1, x, o), v) _ _ _ _ ?_ hW hS d_Gat_chase_84
          cases n with
          | zero => exact ⟨by rw [hs]; rfl, by rw [he]; rfl⟩
          | succ n' =>
            have h22 : sAlw a1 P1 = false := by first | exact h22 | exact absurd h11 (by omega)
            refine ⟨?_, ?_⟩
            · rw [hs]; show _ = ((if _ then _ else _, x, o), v); rw [if_pos h22]
            · rw [he]; show _ = (if _ then _ else _); rw [if_pos (by rw [← sAlw_wk hk]; exact h22)]
        · -- 22 f
          have h22 : (sAlw a1 P1) = true := bI_n0 h22
          refine lv_iload_n hx hb d_Gat_chase_25 rfl (lv_at hl 1 rfl) ?_
          refine lv_if_eq (tgt := 34) hx hb d_Gat_chase_26 (by decide) (fun h26 => ?_) (fun h26 => ?_)
          · exact absurd h26 (by decide)
          · -- 26 f
            refine lv_aload_n hx hb d_Gat_chase_29 rfl (lv_at hl 0 rfl) ?_
            refine lv_iload_n hx hb d_Gat_chase_30 rfl (lv_at hl 2 rfl) ?_
            obtain ⟨⟨hh, hh6, hh1⟩, -⟩ := (WFw_wk hk hw).2.2.1 P1 hP1
            refine gc_vV (As := [.int (nI P1)]) (b := ad 24) (rest := []) X cw_Gat_110 (C_Gat_fetch l (a := a1) (x := x) (o := o) (v := v) hP1 hnp hh1 hh6 hnf hd) hW hS (gW_recv (ci := 5) (fs := gf5 ad) hK hW (by omega) (fun σ τ => ge_5 rfl σ τ) (r := (R_Gat, F_Gat, 17)) rfl) ⟨Nat.le_trans (Nat.le_of_ble_eq_true rfl) hR.1, Nat.le_trans (Nat.le_of_ble_eq_true rfl) hR.2⟩ rfl hl.1 rfl (Nat.le_of_ble_eq_true rfl) d_Gat_chase_31 ⟨Nat.zero_le _, Nat.zero_le _⟩ (fun t H locs hp hW hS => ?_)
            subst hp
            have hW : gW g A ad np (sFe a1 P1, x, o) v H := hW
            have hk2 := wk_tr hk (wk_sFe a1 P1)
            have h3 : sFe a1 P1 3 = a 3 := hk2.1 3 (by decide) (by decide)
            obtain ⟨c9, hc3, hc9, hcH, hcG, hcM⟩ := WX_code hwx hnp hP1
            have h22 : sAlw a1 P1 = true := h22
            have hal : sAlw a P1 = true := by rw [← sAlw_wk hk]; exact h22
            refine lv_aload_n hx hb d_Gat_chase_34 rfl (lv_at hl 0 rfl) ?_
            refine gf_Gat_9 X hW  d_Gat_chase_35 ?_
            refine gf_Gat_95 X hW  d_Gat_chase_38 ?_
            refine lv_iload_n hx hb d_Gat_chase_41 rfl (lv_at hl 2 rfl) ?_
            refine gy_aP (i := P1) hx hb hK hW (by omega) hnp rfl d_Gat_chase_42 ?_
            refine lv_astore hx hb d_Gat_chase_43 hl (by decide) rfl (fun ls hl => ?_)
            have hl : lv_has ls 6 [(5, .ref (ad (gp P1))), (0, .ref (ad 24)), (2, .int 1), (3, .int (nI P1)), (4, .int (nI k))] := hl
            refine lv_aload hx hb d_Gat_chase_45 (lv_at hl 0 rfl) ?_
            refine gf_Gat_113 (z := nI c9) X hW (by unfold gp; omega) (gk_p0 P1) (gv_1_0 (by omega)) (gi_1_0 _) hc9 d_Gat_chase_47 ?_
            refine gs_Gat_117 X hS d_Gat_chase_50 ?_
            refine lv_acmp_ne (rx := some (g.2.2 ((nI c9).toNatClampNeg))) (ry := some (g.2.2 0)) (tgt := 58) hx hb d_Gat_chase_53 (by decide) (fun h53 => ?_) (fun h53 => ?_)
            · -- 53 t
              have h53 : ¬ c9 = 0 := fun q => h53 ((en_eq X.2.2.1 hc3 (by decide)).mpr q)
              refine lv_aload hx hb d_Gat_chase_58 (lv_at hl 0 rfl) ?_
              refine gf_Gat_113 (z := nI c9) X hW (by unfold gp; omega) (gk_p0 P1) (gv_1_0 (by omega)) (gi_1_0 _) hc9 d_Gat_chase_60 ?_
              refine gs_Gat_122 X hS d_Gat_chase_63 ?_
              refine lv_acmp_ne (rx := some (g.2.2 ((nI c9).toNatClampNeg))) (ry := some (g.2.2 2)) (tgt := 71) hx hb d_Gat_chase_66 (by decide) (fun h66 => ?_) (fun h66 => ?_)
              · -- 66 t
                have h66 : ¬ c9 = 2 := fun q => h66 ((en_eq X.2.2.1 hc3 (by decide)).mpr q)
                obtain ⟨q9, hq9, e9, e10⟩ := hcM (by omega)
                refine lv_aload hx hb d_Gat_chase_71 (lv_at hl 0 rfl) ?_
                refine gf_Gat_125 (z := nI q9) X hW (by unfold gp; omega) (gk_p0 P1) (gv_1_1 (by omega)) (gi_1_1 _) e10 d_Gat_chase_73 ?_
                refine lv_istore_n hx hb d_Gat_chase_76 rfl hl (by decide) rfl (fun ls hl => ?_)
                have hl : lv_has ls 6 [(3, .int (nI q9)), (5, .ref (ad (gp P1))), (0, .ref (ad 24)), (2, .int 1), (4, .int (nI k))] := hl
                refine lv_iinc (v := nI (k + 1)) (k := 4) hx hb d_Gat_chase_77 hl rfl (nI_inc k) (by decide) rfl (fun ls hl => ?_)
                have hl : lv_has ls 6 [(4, .int (nI (k + 1))), (3, .int (nI q9)), (5, .ref (ad (gp P1))), (0, .ref (ad 24)), (2, .int 1)] := hl
                refine lv_goto (tgt := 5) hx hb d_Gat_chase_80 (by decide) ?_
                obtain ⟨n', rfl⟩ : ∃ n', n = n' + 1 := ⟨n - 1, by omega⟩
                have t1 : ¬ a 3 P1 = -2 := fun q => h53 (hcH.mpr q)
                have t2 : ¬ a 3 P1 = -3 := fun q => h66 (hcG.mpr q)
                have c1 : (a 3 P1).toNatClampNeg = q9 := by rw [e9, nI_clamp (by omega)]
                have ha3 : a1 3 = a 3 := hk.1 3 (by decide) (by decide)
                obtain ⟨nf2, hnf2, hd2⟩ := sFe_dst hnf hd hP1 hnp
                exact ih (k + 1) n' q9 (sFe a1 P1) nf2 _ _ _ (by omega) hq9 hk2 (by rw [he]; show (if _ then _ else _) = _; rw [if_neg (by rw [hal]; decide), if_neg t1, if_neg t2, c1]) (by rw [hs]; show (if _ then _ else _) = _; rw [if_neg (by rw [h22]; decide), ha3, if_neg (fun q => q.elim t1 t2), c1]) hnf2 hd2 (by omega) (lv_sub hl [3, 4, 1, 0] rfl) hW hS
              · -- 66 f
                have h66 : c9 = 2 := (en_eq X.2.2.1 hc3 (by decide)).mp h66
                refine lv_iconst (v := (-1)) hx hb d_Gat_chase_69 (by decide) ?_
                refine hret (-1) ((sFe a1 P1, x, o), v) _ _ _ _ ?_ hW hS d_Gat_chase_70
                obtain ⟨n', rfl⟩ : ∃ n', n = n' + 1 := ⟨n - 1, by omega⟩
                have ha3 : a1 3 = a 3 := hk.1 3 (by decide) (by decide)
                refine ⟨?_, ?_⟩
                · rw [hs]; show _ = ((if _ then _ else _, x, o), v); rw [if_neg (by rw [h22]; decide), ha3, if_pos (Or.inr (hcG.mp h66))]
                · rw [he]; show _ = (if _ then _ else _); rw [if_neg (by rw [hal]; decide), if_neg (fun q => h53 (hcH.mpr q)), if_pos (hcG.mp h66)]
            · -- 53 f
              have h53 : c9 = 0 := (en_eq X.2.2.1 hc3 (by decide)).mp h53
              refine lv_iload_n hx hb d_Gat_chase_56 rfl (lv_at hl 3 rfl) ?_
              refine hret (nI P1) ((sFe a1 P1, x, o), v) _ _ _ _ ?_ hW hS d_Gat_chase_57
              obtain ⟨n', rfl⟩ : ∃ n', n = n' + 1 := ⟨n - 1, by omega⟩
              have ha3 : a1 3 = a 3 := hk.1 3 (by decide) (by decide)
              refine ⟨?_, ?_⟩
              · rw [hs]; show _ = ((if _ then _ else _, x, o), v); rw [if_neg (by rw [h22]; decide), ha3, if_pos (Or.inl (hcH.mp h53))]
              · rw [he]; show _ = (if _ then _ else _); rw [if_neg (by rw [hal]; decide), if_pos (hcH.mp h53)]
  exact lp5 _ 0 (hp0 + 1) P a nf0 _ _ _ (by omega) hP (wk_rf a) rfl rfl hnf0 hd0 (Nat.lt_succ_self _) (lv_sub hl [2, 4, 1, 0] rfl) hW hS
theorem C_Gat_chase1 (l : Launch) {g : gG} {A : Nat → Prop} {ad : Nat → Nat} {np : Nat} {a x : gA} {o : gL} {v : gS} {P hp0 : Nat} {nf0 : Nat} (hw : WFw np a) (hwx : WX np a x) (hhp : a 0 15 = nI hp0) (hhp4 : hp0 ≤ 4) (hP : P < np) (hnf0 : a 0 23 = nI nf0) (hd0 : dst (a 14) nf0 np) : CtI l y_Gat_chase b_Gat_chase 6 .int 3 [.ref (ad 24), .int (nI P), .int 1] g A ad np (a, x, o) v (fun r t => t = ((sF2 (hp0 + 1) a P, x, o), v) ∧ r = sC2 a (hp0 + 1) P) := mkI (by decide) rfl (Nat.le_of_ble_eq_true rfl) (fun _ _ _ => rfl) (B_Gat_chase1 l hw hwx hhp hhp4 hP hnf0 hd0)
end
section
/-! Handling an entry, and that the gathering keeps to its bounds. -/
theorem sF2_row : ∀ (n : Nat) (a : gA) (P : Nat) {r : Nat}, r ≠ 0 → r ≠ 14 → r ≠ 16 → sF2 n a P r = a r
  | 0, _, _, _, _, _, _ => rfl
  | n + 1, a, P, r, h0, h1, h2 => by
    unfold sF2
    split
    · rfl
    · split
      · exact sFe_row h0 h1 h2
      · rw [sF2_row n _ _ h0 h1 h2, sFe_row h0 h1 h2]
theorem sF2_sc : ∀ (n : Nat) (a : gA) (P : Nat) {j : Nat}, j ≠ 26 → j ≠ 23 → j ≠ 28 → sF2 n a P 0 j = a 0 j
  | 0, _, _, _, _, _, _ => rfl
  | n + 1, a, P, j, h0, h1, h2 => by
    unfold sF2
    split
    · rfl
    · split
      · exact sFe_sc h0 h1 h2
      · rw [sF2_sc n _ _ h0 h1 h2, sFe_sc h0 h1 h2]
theorem sFe_dst2 {a : gA} {P nf np : Nat} (hnf : a 0 23 = nI nf) (hd : dst (a 14) nf np) (hP : P < np) (hnp : np ≤ 32) : ∃ nf2, nf ≤ nf2 ∧ sFe a P 0 23 = nI nf2 ∧ dst (sFe a P 14) nf2 np := by
  have h32 := dst_le hd hnp
  cases hp : pEq (a 14) (nI P) nf with
  | true => rw [sFe_y hnf (by omega) hp]; exact ⟨nf, Nat.le_refl _, hnf, hd⟩
  | false =>
    unfold sFe
    rw [cn_of hnf (by omega), if_neg (by rw [hp]; decide)]
    exact ⟨nf + 1, by omega, rfl, dst_push hd hP rfl hp⟩
theorem sF2_dst : ∀ (n : Nat) {a : gA} {P nf np : Nat}, WFw np a → a 0 23 = nI nf → dst (a 14) nf np → P < np → ∃ nf2, nf ≤ nf2 ∧ sF2 n a P 0 23 = nI nf2 ∧ dst (sF2 n a P 14) nf2 np
  | 0, a, P, nf, np, _, hnf, hd, _ => ⟨nf, Nat.le_refl _, hnf, hd⟩
  | n + 1, a, P, nf, np, hw, hnf, hd, hP => by
    obtain ⟨nf2, h1, h2, h3⟩ := sFe_dst2 hnf hd hP hw.1
    unfold sF2
    split
    · exact ⟨nf, Nat.le_refl _, hnf, hd⟩
    · split
      · exact ⟨nf2, h1, h2, h3⟩
      · rename_i c1 c2
        rcases (hw.2.2.1 P hP).2.2.1 with h | h | ⟨q, hq, h⟩
        · exact absurd (Or.inl h) c2
        · exact absurd (Or.inr h) c2
        · rw [h, nI_clamp (by have := hw.1; omega)]
          obtain ⟨nf3, k1, k2, k3⟩ := sF2_dst n (WFw_wk (wk_sFe a P) hw) h2 h3 hq
          exact ⟨nf3, by omega, k2, k3⟩
theorem sQ_dst {a : gA} {p d : Int32} {nq np q : Nat} (hn : a 0 21 = nI nq) (hd : dst (a 12) nq np) (hq : q < np) (hp : p = nI q) (hnp : np ≤ 32) : ∃ nq2, nq ≤ nq2 ∧ sQ a p d 0 21 = nI nq2 ∧ dst (sQ a p d 12) nq2 np := by
  have h32 := dst_le hd hnp
  cases he : pEq (a 12) p nq with
  | true => rw [sQ_y hn (by omega) he]; exact ⟨nq, Nat.le_refl _, hn, hd⟩
  | false =>
    rw [sQ_n hn (by omega) he]
    exact ⟨nq + 1, by omega, rfl, dst_push hd hq hp he⟩
theorem sQA_dst {f : Nat → Int32} {d : Int32} {a : gA} {nq np : Nat} (hn : a 0 21 = nI nq) (hd : dst (a 12) nq np) (hnp : np ≤ 32) : ∀ (n : Nat), (∀ i, i < n → ∃ q, q < np ∧ f i = nI q) → ∃ nq2, nq ≤ nq2 ∧ sQA f d a n 0 21 = nI nq2 ∧ dst (sQA f d a n 12) nq2 np
  | 0, _ => ⟨nq, Nat.le_refl _, hn, hd⟩
  | n + 1, hf => by
    obtain ⟨nq1, h1, h2, h3⟩ := sQA_dst (d := d) hn hd hnp n (fun i hi => hf i (by omega))
    obtain ⟨q, hq, hp⟩ := hf n (by omega)
    obtain ⟨nq2, k1, k2, k3⟩ := sQ_dst (d := d) h2 h3 hq hp hnp
    exact ⟨nq2, by omega, k2, k3⟩
theorem sQA_congr {f f' : Nat → Int32} {d : Int32} {a : gA} : ∀ (n : Nat), (∀ i, i < n → f i = f' i) → sQA f d a n = sQA f' d a n
  | 0, _ => rfl
  | n + 1, h => by
    show sQ _ _ _ = sQ _ _ _
    rw [sQA_congr n (fun i hi => h i (by omega)), h n (by omega)]
def sHc (a2 : gA) (q : Int32) : gA := gu (gu a2 15 (cn a2 25) q) 0 25 (nI (cn a2 25 + 1))
def sH3 (a2 : gA) (q d : Int32) : gA := if q = -1 ∨ pEq (a2 15) q (cn a2 25) = true then a2 else if d < a2 0 14 then sQA (fun i => a2 6 (5 * q.toNatClampNeg + i)) (d + 1) (sHc a2 q) (a2 7 q.toNatClampNeg).toNatClampNeg else sHc a2 q
def sH4 (a3 : gA) : gA := if a3 0 33 + 1 = a3 0 17 then sMk (gu a3 0 33 (a3 0 33 + 1)) else gu a3 0 33 (a3 0 33 + 1)
/-- an entry is handled -/
def sH (a : gA) : gA := sH4 (sH3 (sF2 (cn a 15 + 1) (gu a 0 20 (nI (cn a 20 + 1))) (a 12 (cn a 20)).toNatClampNeg) (sC2 (gu a 0 20 (nI (cn a 20 + 1))) (cn a 15 + 1) (a 12 (cn a 20)).toNatClampNeg) (a 13 (cn a 20)))
theorem sH3_sc {a2 : gA} {q d : Int32} {j : Nat} (h1 : j ≠ 25) (h2 : j ≠ 21) : sH3 a2 q d 0 j = a2 0 j := by
  have hc : sHc a2 q 0 j = a2 0 j := by
    unfold sHc
    rw [gu_off (fun q => h1 q.2), gu_off (fun q => absurd q.1 (by decide))]
  unfold sH3
  split
  · rfl
  · split
    · rw [qk_sQA _ _ _ _ 0 j (by omega)]
      exact hc
    · exact hc
theorem sH3_row {a2 : gA} {q d : Int32} {r : Nat} (h0 : r ≠ 0) (h1 : r ≠ 12) (h2 : r ≠ 13) (h3 : r ≠ 15) : sH3 a2 q d r = a2 r := by
  have hc : sHc a2 q r = a2 r := by
    unfold sHc
    rw [gu_ne h0, gu_ne h3]
  unfold sH3
  split
  · rfl
  · split
    · rw [qk_row (qk_sQA _ _ _ _) h0 h1 h2]
      exact hc
    · exact hc
theorem wk_sH3 (a2 : gA) (q d : Int32) : wk a2 (sH3 a2 q d) := ⟨fun r p q => sH3_row (by omega) (by omega) (by omega) (by omega), fun j p => sH3_sc (by omega) (by omega)⟩
theorem wk_sMk (a : gA) : wk a (sMk a) := wk_tr (wk_tr (wk_tr (wk_tr (wk_sc (by decide)) (wk_sc (by decide))) (wk_sc (by decide))) (wk_sc (by decide))) (wk_sc (by decide))
theorem wk_sH4 (a : gA) : wk a (sH4 a) := by
  unfold sH4
  split
  · exact wk_tr (wk_sc (by decide)) (wk_sMk _)
  · exact wk_sc (by decide)
theorem wk_sH (a : gA) : wk a (sH a) := wk_tr (wk_tr (wk_tr (wk_sc (by decide)) (wk_sF2 _ _ _)) (wk_sH3 _ _ _)) (wk_sH4 _)
/-- the gathering keeps to its bounds -/
def WFg (np : Nat) (a : gA) : Prop := ∃ hd nq nf ng mh mq mf mg hp, a 0 20 = nI hd ∧ a 0 21 = nI nq ∧ a 0 23 = nI nf ∧ a 0 25 = nI ng ∧ a 0 29 = nI mh ∧ a 0 30 = nI mq ∧ a 0 31 = nI mf ∧ a 0 32 = nI mg ∧ a 0 33 = nI (hd - mh) ∧ a 0 15 = nI hp ∧ hp ≤ 4 ∧ hd ≤ nq ∧ mh ≤ hd ∧ mh ≤ mq ∧ mq ≤ nq ∧ mf ≤ nf ∧ mg ≤ ng ∧ dst (a 12) nq np ∧ dst (a 14) nf np ∧ dst (a 15) ng np
theorem WFg_mark {np : Nat} {a : gA} {hd nq nf ng hp : Nat} (h1 : a 0 20 = nI hd) (h2 : a 0 21 = nI nq) (h3 : a 0 23 = nI nf) (h4 : a 0 25 = nI ng) (h5 : a 0 15 = nI hp) (h6 : hp ≤ 4) (h7 : hd ≤ nq) (d1 : dst (a 12) nq np) (d2 : dst (a 14) nf np) (d3 : dst (a 15) ng np) : WFg np (sMk a) :=
  ⟨hd, nq, nf, ng, hd, nq, nf, ng, hp, h1, h2, h3, h4, h1, h2, h3, h4, (by rw [Nat.sub_self]; rfl), h5, h6, h7, Nat.le_refl _, h7, Nat.le_refl _, Nat.le_refl _, Nat.le_refl _, d1, d2, d3⟩
theorem sH3_q {np nq ng : Nat} {a2 : gA} {q d : Int32} (hw : WFw np a2) (h1 : a2 0 21 = nI nq) (d1 : dst (a2 12) nq np) (h2 : a2 0 25 = nI ng) (d2 : dst (a2 15) ng np) (hq : q = -1 ∨ ∃ Q1, Q1 < np ∧ q = nI Q1) :
    ∃ nq2 ng2, nq ≤ nq2 ∧ ng ≤ ng2 ∧ sH3 a2 q d 0 21 = nI nq2 ∧ dst (sH3 a2 q d 12) nq2 np ∧ sH3 a2 q d 0 25 = nI ng2 ∧ dst (sH3 a2 q d 15) ng2 np := by
  have hng := dst_le d2 hw.1
  have hnp := hw.1
  unfold sH3
  split
  · exact ⟨nq, ng, Nat.le_refl _, Nat.le_refl _, h1, d1, h2, d2⟩
  · rename_i c1
    have hc : cn a2 25 = ng := cn_of h2 (by omega)
    rw [hc] at c1
    obtain ⟨Q1, hQ, rfl⟩ : ∃ Q1, Q1 < np ∧ q = nI Q1 := hq.elim (fun e => absurd (Or.inl e) c1) id
    have hne : pEq (a2 15) (nI Q1) ng = false := by
      cases e : pEq (a2 15) (nI Q1) ng with
      | true => exact absurd (Or.inr e) c1
      | false => rfl
    have e1 : sHc a2 (nI Q1) 0 25 = nI (ng + 1) := by unfold sHc; rw [hc]; rfl
    have e2 : dst (sHc a2 (nI Q1) 15) (ng + 1) np := by unfold sHc; rw [hc]; exact dst_push d2 hQ rfl hne
    have e3 : sHc a2 (nI Q1) 0 21 = nI nq := h1
    have e4 : dst (sHc a2 (nI Q1) 12) nq np := d1
    split
    · obtain ⟨k, hk, hlk, hl⟩ := (hw.2.2.1 Q1 hQ).2.2.2.2
      rw [nI_clamp (by omega), hlk, nI_clamp (by omega)]
      obtain ⟨nq2, g1, g2, g3⟩ := sQA_dst (f := fun i => a2 6 (5 * Q1 + i)) (d := d + 1) e3 e4 hnp k hl
      refine ⟨nq2, ng + 1, g1, by omega, g2, g3, ?_, ?_⟩
      · rw [qk_sQA _ _ _ _ 0 25 (by omega)]; exact e1
      · rw [qk_row (qk_sQA _ _ _ _) (by decide) (by decide) (by decide)]; exact e2
    · exact ⟨nq, ng + 1, Nat.le_refl _, by omega, e3, e4, e1, e2⟩
theorem WFg_sH {np : Nat} {a : gA} (hw : WFw np a) (hg : WFg np a) (hlt : cn a 20 < cn a 21) : WFg np (sH a) := by
  obtain ⟨hd, nq, nf, ng, mh, mq, mf, mg, hp, e20, e21, e23, e25, e29, e30, e31, e32, e33, e15, hp4, hdq, mhd, mhq, mqq, mff, mgg, d12, d14, d15⟩ := hg
  have hnp := hw.1
  have hnq := dst_le d12 hnp
  rw [cn_of e20 (by omega), cn_of e21 (by omega)] at hlt
  obtain ⟨P, hP, eP⟩ := d12.1 hd hlt
  have hw1 : WFw np (gu a 0 20 (nI (hd + 1))) := WFw_wk (wk_sc (by decide)) hw
  have hqv := sC2_pg hw1 (hp + 1) P hP
  obtain ⟨nf2, f1, f2, f3⟩ := sF2_dst (hp + 1) (a := gu a 0 20 (nI (hd + 1))) hw1 e23 d14 hP
  unfold sH
  rw [cn_of e20 (by omega), cn_of e15 (by omega), eP, nI_clamp (by omega)]
  generalize hq : sC2 (gu a 0 20 (nI (hd + 1))) (hp + 1) P = q at hqv ⊢
  generalize ha2 : sF2 (hp + 1) (gu a 0 20 (nI (hd + 1))) P = a2 at f2 f3 ⊢
  have hw2 : WFw np a2 := by rw [← ha2]; exact WFw_wk (wk_sF2 _ _ _) hw1
  have s2 : ∀ j, j ≠ 26 → j ≠ 23 → j ≠ 28 → a2 0 j = gu a 0 20 (nI (hd + 1)) 0 j := fun j p1 p2 p3 => by rw [← ha2]; exact sF2_sc _ _ _ p1 p2 p3
  have r2 : ∀ r, r ≠ 0 → r ≠ 14 → r ≠ 16 → a2 r = a r := fun r p1 p2 p3 => by rw [← ha2, sF2_row _ _ _ p1 p2 p3]; exact gu_ne p1
  obtain ⟨nq2, ng2, q1, q2, q3, q4, q5, q6⟩ := sH3_q (d := a 13 hd) hw2 ((s2 21 (by decide) (by decide) (by decide)).trans e21) (by rw [r2 12 (by decide) (by decide) (by decide)]; exact d12) ((s2 25 (by decide) (by decide) (by decide)).trans e25) (by rw [r2 15 (by decide) (by decide) (by decide)]; exact d15) hqv
  have s3 : ∀ j, j ≠ 25 → j ≠ 21 → sH3 a2 q (a 13 hd) 0 j = a2 0 j := fun j p1 p2 => sH3_sc p1 p2
  have r3 : sH3 a2 q (a 13 hd) 14 = a2 14 := sH3_row (by decide) (by decide) (by decide) (by decide)
  generalize ha3 : sH3 a2 q (a 13 hd) = a3 at q3 q4 q5 q6 s3 r3 ⊢
  have t20 : a3 0 20 = nI (hd + 1) := (s3 20 (by decide) (by decide)).trans (s2 20 (by decide) (by decide) (by decide))
  have t23 : a3 0 23 = nI nf2 := (s3 23 (by decide) (by decide)).trans f2
  have t14 : dst (a3 14) nf2 np := by rw [r3]; exact f3
  have t33 : a3 0 33 + 1 = nI (hd + 1 - mh) := by
    rw [(s3 33 (by decide) (by decide)).trans ((s2 33 (by decide) (by decide) (by decide)).trans e33), nI_1]
    congr 1
    omega
  unfold sH4
  rw [t33]
  split
  · exact WFg_mark (hd := hd + 1) (nq := nq2) (nf := nf2) (ng := ng2) (hp := hp) t20 q3 t23 q5 ((s3 15 (by decide) (by decide)).trans ((s2 15 (by decide) (by decide) (by decide)).trans e15)) hp4 (by omega) q4 t14 q6
  · exact ⟨hd + 1, nq2, nf2, ng2, mh, mq, mf, mg, hp, t20, q3, t23, q5, (s3 29 (by decide) (by decide)).trans ((s2 29 (by decide) (by decide) (by decide)).trans e29), (s3 30 (by decide) (by decide)).trans ((s2 30 (by decide) (by decide) (by decide)).trans e30), (s3 31 (by decide) (by decide)).trans ((s2 31 (by decide) (by decide) (by decide)).trans e31), (s3 32 (by decide) (by decide)).trans ((s2 32 (by decide) (by decide) (by decide)).trans e32), rfl, (s3 15 (by decide) (by decide)).trans ((s2 15 (by decide) (by decide) (by decide)).trans e15), hp4, by omega, by omega, mhq, by omega, by omega, by omega, q4, t14, q6⟩
end
section
/-! specs_gat2 -/
def sB0 (a : gA) (w1 w2 w3 w4 : Int32) : gA := gu (gu (gu (gu (gu (gu (gu (gu (gu (gu a 0 14 w1) 0 15 w2) 0 16 w3) 0 17 w4) 0 21 (nI 0)) 0 23 (nI 0)) 0 25 (nI 0)) 0 20 0) 0 26 0) 0 28 0
def sSt (a : gA) (w1 w2 w3 w4 : Int32) : gA := sMk (sQA (a 11) 0 (sAF (sB0 a w1 w2 w3 w4) 0 6) (cn a 12))
def sCr (a : gA) : gA := gu (sAF (gu (gu (gu (gu a 0 20 (a 0 29)) 0 21 (a 0 30)) 0 23 (a 0 31)) 0 25 (a 0 32)) (a 0 26 + a 0 16) 6) 0 33 0
theorem sAF_row (a : gA) (w : Int32) {r : Nat} (h : r ≠ 16) : ∀ n, sAF a w n r = a r
  | 0 => rfl
  | n + 1 => by
    show gu (sAF a w n) 16 n w r = a r
    rw [gu_ne h, sAF_row a w h n]
theorem dst_0 (f : Nat → Int32) (np : Nat) : dst f 0 np := ⟨fun i h => absurd h (Nat.not_lt_zero _), fun i j h => absurd h (Nat.not_lt_zero _)⟩
set_option maxHeartbeats 400000 in
set_option maxRecDepth 20000 in
theorem B_Gat_handleEntry (l : Launch) {g : gG} {A : Nat → Prop} {ad : Nat → Nat} {np : Nat} {a x : gA} {o : gL} {v : gS} (hw : WFw np a) (hwx : WX np a x) (hg : WFg np a) (hlt : cn a 20 < cn a 21) : BdV l b_Gat_handleEntry 4 R_Gat 4 [.ref (ad 24)] g A ad np (a, x, o) v (fun t => ∃ x', t = ((sH a, x', o), v) ∧ WX np (sH a) x') := by
  intro p e R s m args below meth c Q ls X hW hS hR hl hret
  have hx := X.1.1
  have hb := X.1.2.1
  have hml := X.1.2.2.1
  have hown := X.1.2.2.2.1
  have hts := X.1.2.2.2.2
  have hK := X.2.1
  have hl : lv_has ls 4 [(0, .ref (ad 24))] := hl
  have hnp := hw.1
  obtain ⟨hd, nq, nf, ng, mh, mq, mf, mg, hp0, e20, e21, e23, e25, e29, e30, e31, e32, e33, e15, hp4, hdq, mhd, mhq, mqq, mff, mgg, d12, d14, d15⟩ := hg
  have hnq := dst_le d12 hnp
  have hng := dst_le d15 hnp
  rw [cn_of e20 (by omega), cn_of e21 (by omega)] at hlt
  obtain ⟨P, hP, eP⟩ := d12.1 hd hlt
  have hw1 : WFw np (gu a 0 20 (nI (hd + 1))) := WFw_wk (wk_sc (by decide)) hw
  refine lv_aload_n hx hb d_Gat_handleEntry_0 rfl (lv_at hl 0 rfl) ?_
  refine gf_Gat_20 X hW  d_Gat_handleEntry_1 ?_
  refine lv_aload_n hx hb d_Gat_handleEntry_4 rfl (lv_at hl 0 rfl) ?_
  refine gf_Gat_53 (z := nI hd) X hW  (gv_0_0_20 _) rfl e20 d_Gat_handleEntry_5 ?_
  refine gc_iV (As := [.int (nI hd)]) (b := ad 25) (rest := []) X cw_Gat_80 (C_Row_at l (u := (a, x, o)) (v := v) (x := nI hd) (n := nq) (f := a 12) (gRow_25 np) e21 (by omega) (fun i _ => rfl)) hW hS (gW_recv (ci := 3) (fs := gf3 ad 25) hK hW (by omega) (fun σ τ => ge_3 rfl σ τ) (r := (R_Row, F_Row, 2)) rfl) ⟨Nat.le_trans (Nat.le_of_ble_eq_true rfl) hR.1, Nat.le_trans (Nat.le_of_ble_eq_true rfl) hR.2⟩ rfl hl.1 rfl (Nat.le_of_ble_eq_true rfl) d_Gat_handleEntry_8 ⟨Nat.zero_le _, Nat.zero_le _⟩ (fun r t H locs hp hW hS => ?_)
  obtain ⟨rfl, hr9⟩ := hp
  rw [at_in hlt (by omega), eP] at hr9
  subst hr9
  have hW : gW g A ad np (a, x, o) v H := hW
  refine lv_istore_n hx hb d_Gat_handleEntry_11 rfl hl (by decide) rfl (fun ls hl => ?_)
  have hl : lv_has ls 4 [(1, .int (nI P)), (0, .ref (ad 24))] := hl
  refine lv_aload_n hx hb d_Gat_handleEntry_12 rfl (lv_at hl 1 rfl) ?_
  refine gf_Gat_24 X hW  d_Gat_handleEntry_13 ?_
  refine lv_aload_n hx hb d_Gat_handleEntry_16 rfl (lv_at hl 1 rfl) ?_
  refine gf_Gat_53 (z := nI hd) X hW  (gv_0_0_20 _) rfl e20 d_Gat_handleEntry_17 ?_
  refine gc_iV (As := [.int (nI hd)]) (b := ad 27) (rest := []) X cw_Gat_80 (C_Row_at l (u := (a, x, o)) (v := v) (x := nI hd) (n := nq) (f := a 13) (gRow_27 np) (hwx.2.1.trans e21) (by omega) (fun i _ => rfl)) hW hS (gW_recv (ci := 3) (fs := gf3 ad 27) hK hW (by omega) (fun σ τ => ge_3 rfl σ τ) (r := (R_Row, F_Row, 2)) rfl) ⟨Nat.le_trans (Nat.le_of_ble_eq_true rfl) hR.1, Nat.le_trans (Nat.le_of_ble_eq_true rfl) hR.2⟩ rfl hl.1 rfl (Nat.le_of_ble_eq_true rfl) d_Gat_handleEntry_20 ⟨Nat.zero_le _, Nat.zero_le _⟩ (fun r t H locs hp hW hS => ?_)
  obtain ⟨rfl, hr9⟩ := hp
  rw [at_in hlt (by omega)] at hr9
  subst hr9
  have hW : gW g A ad np (a, x, o) v H := hW
  refine lv_istore_n hx hb d_Gat_handleEntry_23 rfl hl (by decide) rfl (fun ls hl => ?_)
  have hl : lv_has ls 4 [(2, .int (a 13 hd)), (1, .int (nI P)), (0, .ref (ad 24))] := hl
  refine lv_aload_n hx hb d_Gat_handleEntry_24 rfl (lv_at hl 2 rfl) ?_
  refine lv_dup hx hb d_Gat_handleEntry_25 rfl ?_
  refine gf_Gat_53 (z := nI hd) X hW  (gv_0_0_20 _) rfl e20 d_Gat_handleEntry_26 ?_
  refine lv_iconst (v := 1) hx hb d_Gat_handleEntry_29 (by decide) ?_
  refine lv_iadd hx hb d_Gat_handleEntry_30 ?_
  rw [show (nI hd) + 1 = nI (hd + 1) from nI_1 hd]
  refine pf_Gat_53 (z := nI (hd + 1)) X hW hS  (gv_0_0_20 _) rfl rfl rfl d_Gat_handleEntry_31 (fun H locs hW hS => ?_)
  have hW : gW g A ad np (gu a 0 20 (nI (hd + 1)), x, o) v H := hW
  refine lv_aload_n hx hb d_Gat_handleEntry_34 rfl (lv_at hl 2 rfl) ?_
  refine lv_iload_n hx hb d_Gat_handleEntry_35 rfl (lv_at hl 1 rfl) ?_
  refine lv_iconst (v := 1) hx hb d_Gat_handleEntry_36 (by decide) ?_
  refine gc_iV (As := [.int (nI P), .int 1]) (b := ad 24) (rest := []) X cw_Gat_84 (C_Gat_chase1 l (a := gu a 0 20 (nI (hd + 1))) (x := x) (o := o) (v := v) (P := P) hw1 hwx e15 hp4 hP e23 d14) hW hS (gW_recv (ci := 5) (fs := gf5 ad) hK hW (by omega) (fun σ τ => ge_5 rfl σ τ) (r := (R_Gat, F_Gat, 17)) rfl) ⟨Nat.le_trans (Nat.le_of_ble_eq_true rfl) hR.1, Nat.le_trans (Nat.le_of_ble_eq_true rfl) hR.2⟩ rfl hl.1 rfl (Nat.le_of_ble_eq_true rfl) d_Gat_handleEntry_37 ⟨Nat.zero_le _, Nat.zero_le _⟩ (fun qv t H locs hp hW hS => ?_)
  obtain ⟨rfl, hqv⟩ := hp
  obtain ⟨a2, ha2⟩ : ∃ z, z = sF2 (hp0 + 1) (gu a 0 20 (nI (hd + 1))) P := ⟨_, rfl⟩
  rw [← ha2] at hW
  have hw2 : WFw np a2 := by rw [ha2]; exact WFw_wk (wk_sF2 _ _ _) hw1
  have s2 : ∀ j, j ≠ 26 → j ≠ 23 → j ≠ 28 → a2 0 j = gu a 0 20 (nI (hd + 1)) 0 j := fun j p1 p2 p3 => by rw [ha2]; exact sF2_sc _ _ _ p1 p2 p3
  have r2 : ∀ r, r ≠ 0 → r ≠ 14 → r ≠ 16 → a2 r = a r := fun r p1 p2 p3 => by rw [ha2, sF2_row _ _ _ p1 p2 p3]; exact gu_ne p1
  have g21 : a2 0 21 = nI nq := (s2 21 (by decide) (by decide) (by decide)).trans e21
  have g25 : a2 0 25 = nI ng := (s2 25 (by decide) (by decide) (by decide)).trans e25
  have hcn : cn a2 25 = ng := cn_of g25 (by omega)
  have hsH : sH a = sH4 (sH3 a2 qv (a 13 hd)) := by unfold sH; rw [cn_of e20 (by omega), cn_of e15 (by omega), eP, nI_clamp (by omega), ← ha2, ← hqv]
  have hW : gW g A ad np (a2, x, o) v H := hW
  refine lv_istore_n hx hb d_Gat_handleEntry_40 rfl hl (by decide) rfl (fun ls hl => ?_)
  have hl : lv_has ls 4 [(3, .int qv), (2, .int (a 13 hd)), (1, .int (nI P)), (0, .ref (ad 24))] := hl
  have jn93 : ∀ (a3 : gA) (x3 : gA) (ls : Array Slot) (H : Heap) (locs : List Loc), (a3 = sH3 a2 qv (a 13 hd)) → (∀ r j, ¬ (r = 2 ∧ j = 0) → x3 r j = x r j) → (x3 2 0 = a3 0 21) → lv_has ls 4 [(0, .ref (ad 24))] → gW g A ad np (a3, x3, o) v H → va_S A s.heap H locs → W p l e R s m args below meth c H locs 0 0 Q (F0 m 93 ls []) := by
    intro a3 x3 ls H locs ha3 hx3 hx4 hl hW hS
    have s3 : ∀ j, j ≠ 25 → j ≠ 21 → a3 0 j = a2 0 j := fun j p1 p2 => by rw [ha3]; exact sH3_sc p1 p2
    have t20 : a3 0 20 = nI (hd + 1) := (s3 20 (by decide) (by decide)).trans (s2 20 (by decide) (by decide) (by decide))
    have t29 : a3 0 29 = nI mh := (s3 29 (by decide) (by decide)).trans ((s2 29 (by decide) (by decide) (by decide)).trans e29)
    have t33 : a3 0 33 + 1 = nI (hd + 1 - mh) := by
      rw [(s3 33 (by decide) (by decide)).trans ((s2 33 (by decide) (by decide) (by decide)).trans e33), nI_1]
      congr 1
      omega
    rw [← ha3] at hsH
    have hwk3 : wk a a3 := by rw [ha3]; exact wk_tr (wk_tr (wk_sc (j := 20) (z := nI (hd + 1)) (by decide)) (by rw [ha2]; exact wk_sF2 _ _ _)) (wk_sH3 _ _ _)
    have hWX : ∀ a4 : gA, wk a3 a4 → a4 0 21 = a3 0 21 → WX np a4 x3 := fun a4 k1 k2 => by
      have k3 : a4 3 = a 3 := (k1.1 3 (by decide) (by decide)).trans (hwk3.1 3 (by decide) (by decide))
      refine ⟨fun p hp => ?_, by rw [k2]; exact hx4, ?_⟩
      · rw [k3, hx3 0 p (by omega), hx3 1 p (by omega)]; exact hwx.1 p hp
      · rw [hx3 2 1 (by omega)]; exact hwx.2.2
    have hW := gW_33 (a3 0 33 + 1) hW
    refine lv_aload_n hx hb d_Gat_handleEntry_93 rfl (lv_at hl 0 rfl) ?_
    refine gf_Gat_53 (z := nI (hd + 1)) X hW  (gv_0_0_20 _) rfl t20 d_Gat_handleEntry_94 ?_
    refine lv_aload_n hx hb d_Gat_handleEntry_97 rfl (lv_at hl 0 rfl) ?_
    refine gf_Gat_104 (z := nI mh) X hW  (gv_0_0_29 _) rfl t29 d_Gat_handleEntry_98 ?_
    refine lv_isub hx hb d_Gat_handleEntry_101 ?_
    rw [show (nI (hd + 1)) - (nI mh) = nI (hd + 1 - mh) from pk_sub (by omega)]
    refine lv_aload_n hx hb d_Gat_handleEntry_102 rfl (lv_at hl 0 rfl) ?_
    refine gf_Gat_47 (z := a3 0 17) X hW  (gv_0_0_17 _) rfl rfl d_Gat_handleEntry_103 ?_
    refine lv_icmp_ne (tgt := 113) hx hb d_Gat_handleEntry_106 (by decide) (fun h106 => ?_) (fun h106 => ?_)
    · -- 106 t
      refine hret ((gu a3 0 33 (a3 0 33 + 1), x3, o), v) _ _ _ _ ?_ hW hS d_Gat_handleEntry_113
      refine ⟨x3, by rw [hsH]; unfold sH4; rw [if_neg (fun q => h106 (t33.symm.trans q))], ?_⟩
      rw [hsH]; unfold sH4; rw [if_neg (fun q => h106 (t33.symm.trans q))]; exact hWX _ (wk_sc (by decide)) rfl
    · -- 106 f
      refine lv_aload_n hx hb d_Gat_handleEntry_109 rfl (lv_at hl 0 rfl) ?_
      refine gc_vV (As := []) (b := ad 24) (rest := []) X cw_Gat_74 (C_Gat_setMark l (a := gu a3 0 33 (a3 0 33 + 1)) (x := x3) (o := o) (v := v)) hW hS (gW_recv (ci := 5) (fs := gf5 ad) hK hW (by omega) (fun σ τ => ge_5 rfl σ τ) (r := (R_Gat, F_Gat, 17)) rfl) ⟨Nat.le_trans (Nat.le_of_ble_eq_true rfl) hR.1, Nat.le_trans (Nat.le_of_ble_eq_true rfl) hR.2⟩ rfl hl.1 rfl (Nat.le_of_ble_eq_true rfl) d_Gat_handleEntry_110 ⟨Nat.zero_le _, Nat.zero_le _⟩ (fun t H locs hp hW hS => ?_)
      subst hp
      have hW : gW g A ad np (sMk (gu a3 0 33 (a3 0 33 + 1)), x3, o) v H := hW
      refine hret ((sMk (gu a3 0 33 (a3 0 33 + 1)), x3, o), v) _ _ _ _ ?_ hW hS d_Gat_handleEntry_113
      refine ⟨x3, by rw [hsH]; unfold sH4; rw [if_pos (t33.trans h106)], ?_⟩
      rw [hsH]; unfold sH4; rw [if_pos (t33.trans h106)]; exact hWX _ (wk_tr (wk_sc (by decide)) (wk_sMk _)) rfl
  refine lv_iload_n hx hb d_Gat_handleEntry_41 rfl (lv_at hl 0 rfl) ?_
  refine lv_iconst (v := (-1)) hx hb d_Gat_handleEntry_42 (by decide) ?_
  refine lv_icmp_eq (tgt := 93) hx hb d_Gat_handleEntry_43 (by decide) (fun h43 => ?_) (fun h43 => ?_)
  · -- 43 t
    exact jn93 a2 x _ _ _ (by unfold sH3; rw [hcn, if_pos (by first | exact Or.inl h43 | exact Or.inr h54)]) (fun _ _ _ => rfl) (hwx.2.1.trans (s2 21 (by decide) (by decide) (by decide)).symm) (lv_sub hl [3] rfl) hW hS
  · -- 43 f
    obtain ⟨Q1, hQ1, hqQ⟩ : ∃ Q1, Q1 < np ∧ qv = nI Q1 := (sC2_pg hw1 (hp0 + 1) P hP).elim (fun e => absurd (hqv.trans e) h43) (fun ⟨q, h1, h2⟩ => ⟨q, h1, hqv.trans h2⟩)
    refine lv_aload_n hx hb d_Gat_handleEntry_46 rfl (lv_at hl 3 rfl) ?_
    refine gf_Gat_30 X hW  d_Gat_handleEntry_47 ?_
    refine lv_iload_n hx hb d_Gat_handleEntry_50 rfl (lv_at hl 0 rfl) ?_
    refine gc_iV (As := [.int qv]) (b := ad 31) (rest := []) X cw_Gat_88 (C_Row_holds l (u := (a2, x, o)) (v := v) (x := qv) (n := ng) (f := a2 15) (gRow_31 np) g25 (by omega) (fun i _ => rfl)) hW hS (gW_recv (ci := 3) (fs := gf3 ad 31) hK hW (by omega) (fun σ τ => ge_3 rfl σ τ) (r := (R_Row, F_Row, 2)) rfl) ⟨Nat.le_trans (Nat.le_of_ble_eq_true rfl) hR.1, Nat.le_trans (Nat.le_of_ble_eq_true rfl) hR.2⟩ rfl hl.1 rfl (Nat.le_of_ble_eq_true rfl) d_Gat_handleEntry_51 ⟨Nat.zero_le _, Nat.zero_le _⟩ (fun r t H locs hp hW hS => ?_)
    obtain ⟨rfl, rfl⟩ := hp
    have hW : gW g A ad np (a2, x, o) v H := hW
    refine lv_if_ne (tgt := 93) hx hb d_Gat_handleEntry_54 (by decide) (fun h54 => ?_) (fun h54 => ?_)
    · -- 54 t
      have h54 : (pEq (a2 15) qv ng) = true := bI_n0 h54
      exact jn93 a2 x _ _ _ (by unfold sH3; rw [hcn, if_pos (by first | exact Or.inl h43 | exact Or.inr h54)]) (fun _ _ _ => rfl) (hwx.2.1.trans (s2 21 (by decide) (by decide) (by decide)).symm) (lv_sub hl [3] rfl) hW hS
    · -- 54 f
      have h54 : (pEq (a2 15) qv ng) = false := bI_0 h54
      have d15b : dst (a2 15) ng np := by rw [r2 15 (by decide) (by decide) (by decide)]; exact d15
      have hr32 : ng < 32 := dst_room d15b hQ1 hqQ h54 hnp
      have hneg : ¬ (qv = -1 ∨ pEq (a2 15) qv ng = true) := fun q => q.elim h43 (fun e => by rw [h54] at e; cases e)
      refine lv_aload_n hx hb d_Gat_handleEntry_57 rfl (lv_at hl 3 rfl) ?_
      refine gf_Gat_30 X hW  d_Gat_handleEntry_58 ?_
      refine lv_iload_n hx hb d_Gat_handleEntry_61 rfl (lv_at hl 0 rfl) ?_
      refine gc_iV (As := [.int qv]) (b := ad 31) (rest := []) X cw_Gat_92 (C_Row_add l (u := (a2, x, o)) (v := v) (x := qv) (n := ng) (gRow_31 np) g25 (by omega)) hW hS (gW_recv (ci := 3) (fs := gf3 ad 31) hK hW (by omega) (fun σ τ => ge_3 rfl σ τ) (r := (R_Row, F_Row, 2)) rfl) ⟨Nat.le_trans (Nat.le_of_ble_eq_true rfl) hR.1, Nat.le_trans (Nat.le_of_ble_eq_true rfl) hR.2⟩ rfl hl.1 rfl (Nat.le_of_ble_eq_true rfl) d_Gat_handleEntry_62 ⟨Nat.zero_le _, Nat.zero_le _⟩ (fun r t H locs hp hW hS => ?_)
      obtain ⟨rfl, rfl⟩ := hp.1 hr32
      have hW : gW g A ad np (gu (gu a2 15 ng qv) 0 25 (nI (ng + 1)), x, o) v H := hW
      refine lv_pop hx hb d_Gat_handleEntry_65 rfl ?_
      refine lv_iload_n hx hb d_Gat_handleEntry_66 rfl (lv_at hl 1 rfl) ?_
      refine lv_aload_n hx hb d_Gat_handleEntry_67 rfl (lv_at hl 3 rfl) ?_
      refine gf_Gat_37 (z := a2 0 14) X hW  (gv_0_0_14 _) rfl rfl d_Gat_handleEntry_68 ?_
      refine lv_icmp_ge (tgt := 93) hx hb d_Gat_handleEntry_71 (by decide) (fun h71 => ?_) (fun h71 => ?_)
      · -- 71 t
        exact jn93 (gu (gu a2 15 ng qv) 0 25 (nI (ng + 1))) x _ _ _ (by unfold sH3; rw [hcn, if_neg hneg, if_neg (Int32.not_lt.mpr h71)]; unfold sHc; rw [hcn]) (fun _ _ _ => rfl) (hwx.2.1.trans (s2 21 (by decide) (by decide) (by decide)).symm) (lv_sub hl [3] rfl) hW hS
      · -- 71 f
        obtain ⟨lk, hlk5, hlk, hll⟩ := (hw2.2.2.1 Q1 hQ1).2.2.2.2
        refine lv_aload_n hx hb d_Gat_handleEntry_74 rfl (lv_at hl 3 rfl) ?_
        refine lv_aload_n hx hb d_Gat_handleEntry_75 rfl (lv_at hl 3 rfl) ?_
        refine gf_Gat_9 X hW  d_Gat_handleEntry_76 ?_
        refine gf_Gat_95 X hW  d_Gat_handleEntry_79 ?_
        refine lv_iload_n hx hb d_Gat_handleEntry_82 rfl (lv_at hl 0 rfl) ?_
        refine gy_aP (i := Q1) hx hb hK hW hQ1 hnp hqQ d_Gat_handleEntry_83 ?_
        refine gf_Gat_99 X hW (by unfold gp; omega) (gk_p0 Q1) d_Gat_handleEntry_84 ?_
        refine lv_iload_n hx hb d_Gat_handleEntry_87 rfl (lv_at hl 1 rfl) ?_
        refine lv_iconst (v := 1) hx hb d_Gat_handleEntry_88 (by decide) ?_
        refine lv_iadd hx hb d_Gat_handleEntry_89 ?_
        refine gc_vV (As := [.ref (ad (gp Q1 + 3)), .int ((a 13 hd) + 1)]) (b := ad 24) (rest := []) X cw_Gat_70 (C_Gat_enqueueAll l (a := gu (gu a2 15 ng qv) 0 25 (nI (ng + 1))) (x := x) (o := o) (v := v) (k := gp Q1 + 3) (n := lk) (f := fun i => a2 6 (5 * Q1 + i)) (w := a 13 hd + 1) (n0 := nq) hnp (gRow_l hQ1) hlk5 (fun a' x' hk => ⟨(hk 7 Q1 (by omega)).trans hlk, fun i _ => hk 6 _ (by omega)⟩) hll g21 (hwx.2.1.trans e21) (by show dst (a2 12) nq np; rw [r2 12 (by decide) (by decide) (by decide)]; exact d12)) hW hS (gW_recv (ci := 5) (fs := gf5 ad) hK hW (by omega) (fun σ τ => ge_5 rfl σ τ) (r := (R_Gat, F_Gat, 17)) rfl) ⟨Nat.le_trans (Nat.le_of_ble_eq_true rfl) hR.1, Nat.le_trans (Nat.le_of_ble_eq_true rfl) hR.2⟩ rfl hl.1 rfl (Nat.le_of_ble_eq_true rfl) d_Gat_handleEntry_90 ⟨Nat.zero_le _, Nat.zero_le _⟩ (fun t H locs hp hW hS => ?_)
        obtain ⟨x', nq', rfl, hx1, hx2, hq1, hd1⟩ := hp
        have hW : gW g A ad np (sQA (fun i => a2 6 (5 * Q1 + i)) (a 13 hd + 1) (gu (gu a2 15 ng qv) 0 25 (nI (ng + 1))) lk, x', o) v H := hW
        exact jn93 (sQA (fun i => a2 6 (5 * Q1 + i)) (a 13 hd + 1) (gu (gu a2 15 ng qv) 0 25 (nI (ng + 1))) lk) x' _ _ _ (by unfold sH3; rw [hcn, if_neg hneg, if_pos (Int32.not_le.mp h71), hqQ, nI_clamp (by omega), hlk, nI_clamp (by omega)]; unfold sHc; rw [hcn]) hx1 (hx2.trans hq1.symm) (lv_sub hl [3] rfl) hW hS
theorem C_Gat_handleEntry (l : Launch) {g : gG} {A : Nat → Prop} {ad : Nat → Nat} {np : Nat} {a x : gA} {o : gL} {v : gS} (hw : WFw np a) (hwx : WX np a x) (hg : WFg np a) (hlt : cn a 20 < cn a 21) : CtV l y_Gat_handleEntry b_Gat_handleEntry 4 4 [.ref (ad 24)] g A ad np (a, x, o) v (fun t => ∃ x', t = ((sH a, x', o), v) ∧ WX np (sH a) x') := mkV (by decide) rfl (Nat.le_of_ble_eq_true rfl) (B_Gat_handleEntry l hw hwx hg hlt)

set_option maxHeartbeats 400000 in
set_option maxRecDepth 20000 in
theorem B_Gat_startAnew (l : Launch) {g : gG} {A : Nat → Prop} {ad : Nat → Nat} {np : Nat} {a x : gA} {o : gL} {v : gS} {w1 w2 w3 w4 : Int32} (hw : WFw np a) (hwx : WX np a x) (hg : WFg np a) : BdV l b_Gat_startAnew 5 R_Gat 2 [.ref (ad 24), .int w1, .int w2, .int w3, .int w4] g A ad np (a, x, o) v (fun t => ∃ x', t = ((sSt a w1 w2 w3 w4, x', o), v) ∧ WX np (sSt a w1 w2 w3 w4) x') := by
  intro p e R s m args below meth c Q ls X hW hS hR hl hret
  have hx := X.1.1
  have hb := X.1.2.1
  have hml := X.1.2.2.1
  have hown := X.1.2.2.2.1
  have hts := X.1.2.2.2.2
  have hK := X.2.1
  have hl : lv_has ls 5 [(0, .ref (ad 24)), (1, .int w1), (2, .int w2), (3, .int w3), (4, .int w4)] := hl
  have hnp := hw.1
  obtain ⟨hd, nq, nf, ng, mh, mq, mf, mg, hp0, e20, e21, e23, e25, e29, e30, e31, e32, e33, e15, hp4, hdq, mhd, mhq, mqq, mff, mgg, d12, d14, d15⟩ := hg
  have hnq := dst_le d12 hnp
  have hng := dst_le d15 hnp
  have hnf := dst_le d14 hnp
  obtain ⟨kf, hkf6, e12, hkf⟩ := hw.2.2.2.2.2.2.2.1
  refine lv_aload_n hx hb d_Gat_startAnew_0 rfl (lv_at hl 0 rfl) ?_
  refine lv_iload_n hx hb d_Gat_startAnew_1 rfl (lv_at hl 1 rfl) ?_
  refine pf_Gat_37 (z := w1) X hW hS  (gv_0_0_14 _) rfl rfl rfl d_Gat_startAnew_2 (fun H locs hW hS => ?_)
  have hW : gW g A ad np (gu a 0 14 w1, x, o) v H := hW
  refine lv_aload_n hx hb d_Gat_startAnew_5 rfl (lv_at hl 0 rfl) ?_
  refine lv_iload_n hx hb d_Gat_startAnew_6 rfl (lv_at hl 2 rfl) ?_
  refine pf_Gat_41 (z := w2) X hW hS  (gv_0_0_15 _) rfl rfl rfl d_Gat_startAnew_7 (fun H locs hW hS => ?_)
  have hW : gW g A ad np (gu (gu a 0 14 w1) 0 15 w2, x, o) v H := hW
  refine lv_aload_n hx hb d_Gat_startAnew_10 rfl (lv_at hl 0 rfl) ?_
  refine lv_iload_n hx hb d_Gat_startAnew_11 rfl (lv_at hl 3 rfl) ?_
  refine pf_Gat_44 (z := w3) X hW hS  (gv_0_0_16 _) rfl rfl rfl d_Gat_startAnew_12 (fun H locs hW hS => ?_)
  have hW : gW g A ad np (gu (gu (gu a 0 14 w1) 0 15 w2) 0 16 w3, x, o) v H := hW
  refine lv_aload_n hx hb d_Gat_startAnew_15 rfl (lv_at hl 0 rfl) ?_
  refine lv_iload hx hb d_Gat_startAnew_16 (lv_at hl 4 rfl) ?_
  refine pf_Gat_47 (z := w4) X hW hS  (gv_0_0_17 _) rfl rfl rfl d_Gat_startAnew_18 (fun H locs hW hS => ?_)
  have hW : gW g A ad np (gu (gu (gu (gu a 0 14 w1) 0 15 w2) 0 16 w3) 0 17 w4, x, o) v H := hW
  refine lv_aload_n hx hb d_Gat_startAnew_21 rfl (lv_at hl 0 rfl) ?_
  refine gf_Gat_20 X hW  d_Gat_startAnew_22 ?_
  refine lv_iconst (v := 0) hx hb d_Gat_startAnew_25 (by decide) ?_
  refine gc_vV (As := [.int 0]) (b := ad 25) (rest := []) X cw_Gat_50 (C_Row_cutTo l (u := (gu (gu (gu (gu a 0 14 w1) 0 15 w2) 0 16 w3) 0 17 w4, x, o)) (v := v) (mm := 0) (n := nq) (gRow_25 np) e21 (by omega) (by omega)) hW hS (gW_recv (ci := 3) (fs := gf3 ad 25) hK hW (by omega) (fun σ τ => ge_3 rfl σ τ) (r := (R_Row, F_Row, 2)) rfl) ⟨Nat.le_trans (Nat.le_of_ble_eq_true rfl) hR.1, Nat.le_trans (Nat.le_of_ble_eq_true rfl) hR.2⟩ rfl hl.1 rfl (Nat.le_of_ble_eq_true rfl) d_Gat_startAnew_26 ⟨Nat.zero_le _, Nat.zero_le _⟩ (fun t H locs hp hW hS => ?_)
  subst hp
  have hW : gW g A ad np (gu (gu (gu (gu (gu a 0 14 w1) 0 15 w2) 0 16 w3) 0 17 w4) 0 21 (nI 0), x, o) v H := hW
  refine lv_aload_n hx hb d_Gat_startAnew_29 rfl (lv_at hl 0 rfl) ?_
  refine gf_Gat_24 X hW  d_Gat_startAnew_30 ?_
  refine lv_iconst (v := 0) hx hb d_Gat_startAnew_33 (by decide) ?_
  refine gc_vV (As := [.int 0]) (b := ad 27) (rest := []) X cw_Gat_50 (C_Row_cutTo l (u := (gu (gu (gu (gu (gu a 0 14 w1) 0 15 w2) 0 16 w3) 0 17 w4) 0 21 (nI 0), x, o)) (v := v) (mm := 0) (n := nq) (gRow_27 np) (hwx.2.1.trans e21) (by omega) (by omega)) hW hS (gW_recv (ci := 3) (fs := gf3 ad 27) hK hW (by omega) (fun σ τ => ge_3 rfl σ τ) (r := (R_Row, F_Row, 2)) rfl) ⟨Nat.le_trans (Nat.le_of_ble_eq_true rfl) hR.1, Nat.le_trans (Nat.le_of_ble_eq_true rfl) hR.2⟩ rfl hl.1 rfl (Nat.le_of_ble_eq_true rfl) d_Gat_startAnew_34 ⟨Nat.zero_le _, Nat.zero_le _⟩ (fun t H locs hp hW hS => ?_)
  subst hp
  have hW : gW g A ad np (gu (gu (gu (gu (gu a 0 14 w1) 0 15 w2) 0 16 w3) 0 17 w4) 0 21 (nI 0), gu x 2 0 (nI 0), o) v H := hW
  refine lv_aload_n hx hb d_Gat_startAnew_37 rfl (lv_at hl 0 rfl) ?_
  refine gf_Gat_27 X hW  d_Gat_startAnew_38 ?_
  refine lv_iconst (v := 0) hx hb d_Gat_startAnew_41 (by decide) ?_
  refine gc_vV (As := [.int 0]) (b := ad 29) (rest := []) X cw_Gat_50 (C_Row_cutTo l (u := (gu (gu (gu (gu (gu a 0 14 w1) 0 15 w2) 0 16 w3) 0 17 w4) 0 21 (nI 0), gu x 2 0 (nI 0), o)) (v := v) (mm := 0) (n := nf) (gRow_29 np) e23 (by omega) (by omega)) hW hS (gW_recv (ci := 3) (fs := gf3 ad 29) hK hW (by omega) (fun σ τ => ge_3 rfl σ τ) (r := (R_Row, F_Row, 2)) rfl) ⟨Nat.le_trans (Nat.le_of_ble_eq_true rfl) hR.1, Nat.le_trans (Nat.le_of_ble_eq_true rfl) hR.2⟩ rfl hl.1 rfl (Nat.le_of_ble_eq_true rfl) d_Gat_startAnew_42 ⟨Nat.zero_le _, Nat.zero_le _⟩ (fun t H locs hp hW hS => ?_)
  subst hp
  have hW : gW g A ad np (gu (gu (gu (gu (gu (gu a 0 14 w1) 0 15 w2) 0 16 w3) 0 17 w4) 0 21 (nI 0)) 0 23 (nI 0), gu x 2 0 (nI 0), o) v H := hW
  refine lv_aload_n hx hb d_Gat_startAnew_45 rfl (lv_at hl 0 rfl) ?_
  refine gf_Gat_30 X hW  d_Gat_startAnew_46 ?_
  refine lv_iconst (v := 0) hx hb d_Gat_startAnew_49 (by decide) ?_
  refine gc_vV (As := [.int 0]) (b := ad 31) (rest := []) X cw_Gat_50 (C_Row_cutTo l (u := (gu (gu (gu (gu (gu (gu a 0 14 w1) 0 15 w2) 0 16 w3) 0 17 w4) 0 21 (nI 0)) 0 23 (nI 0), gu x 2 0 (nI 0), o)) (v := v) (mm := 0) (n := ng) (gRow_31 np) e25 (by omega) (by omega)) hW hS (gW_recv (ci := 3) (fs := gf3 ad 31) hK hW (by omega) (fun σ τ => ge_3 rfl σ τ) (r := (R_Row, F_Row, 2)) rfl) ⟨Nat.le_trans (Nat.le_of_ble_eq_true rfl) hR.1, Nat.le_trans (Nat.le_of_ble_eq_true rfl) hR.2⟩ rfl hl.1 rfl (Nat.le_of_ble_eq_true rfl) d_Gat_startAnew_50 ⟨Nat.zero_le _, Nat.zero_le _⟩ (fun t H locs hp hW hS => ?_)
  subst hp
  have hW : gW g A ad np (gu (gu (gu (gu (gu (gu (gu a 0 14 w1) 0 15 w2) 0 16 w3) 0 17 w4) 0 21 (nI 0)) 0 23 (nI 0)) 0 25 (nI 0), gu x 2 0 (nI 0), o) v H := hW
  refine lv_aload_n hx hb d_Gat_startAnew_53 rfl (lv_at hl 0 rfl) ?_
  refine lv_iconst (v := 0) hx hb d_Gat_startAnew_54 (by decide) ?_
  refine pf_Gat_53 (z := 0) X hW hS  (gv_0_0_20 _) rfl rfl rfl d_Gat_startAnew_55 (fun H locs hW hS => ?_)
  have hW : gW g A ad np (gu (gu (gu (gu (gu (gu (gu (gu a 0 14 w1) 0 15 w2) 0 16 w3) 0 17 w4) 0 21 (nI 0)) 0 23 (nI 0)) 0 25 (nI 0)) 0 20 0, gu x 2 0 (nI 0), o) v H := hW
  refine lv_aload_n hx hb d_Gat_startAnew_58 rfl (lv_at hl 0 rfl) ?_
  refine lv_iconst (v := 0) hx hb d_Gat_startAnew_59 (by decide) ?_
  refine pf_Gat_56 (z := 0) X hW hS  (gv_0_0_26 _) rfl rfl rfl d_Gat_startAnew_60 (fun H locs hW hS => ?_)
  have hW : gW g A ad np (gu (gu (gu (gu (gu (gu (gu (gu (gu a 0 14 w1) 0 15 w2) 0 16 w3) 0 17 w4) 0 21 (nI 0)) 0 23 (nI 0)) 0 25 (nI 0)) 0 20 0) 0 26 0, gu x 2 0 (nI 0), o) v H := hW
  refine lv_aload_n hx hb d_Gat_startAnew_63 rfl (lv_at hl 0 rfl) ?_
  refine lv_iconst (v := 0) hx hb d_Gat_startAnew_64 (by decide) ?_
  refine pf_Gat_59 (z := 0) X hW hS  (gv_0_0_28 _) rfl rfl rfl d_Gat_startAnew_65 (fun H locs hW hS => ?_)
  have hW : gW g A ad np (gu (gu (gu (gu (gu (gu (gu (gu (gu (gu a 0 14 w1) 0 15 w2) 0 16 w3) 0 17 w4) 0 21 (nI 0)) 0 23 (nI 0)) 0 25 (nI 0)) 0 20 0) 0 26 0) 0 28 0, gu x 2 0 (nI 0), o) v H := hW
  refine lv_aload_n hx hb d_Gat_startAnew_68 rfl (lv_at hl 0 rfl) ?_
  refine lv_iconst (v := 0) hx hb d_Gat_startAnew_69 (by decide) ?_
  refine gc_vV (As := [.int 0]) (b := ad 24) (rest := []) X cw_Gat_62 (C_Gat_setAllFrom l (a := gu (gu (gu (gu (gu (gu (gu (gu (gu (gu a 0 14 w1) 0 15 w2) 0 16 w3) 0 17 w4) 0 21 (nI 0)) 0 23 (nI 0)) 0 25 (nI 0)) 0 20 0) 0 26 0) 0 28 0) (x := gu x 2 0 (nI 0)) (o := o) (v := v) (w := 0)) hW hS (gW_recv (ci := 5) (fs := gf5 ad) hK hW (by omega) (fun σ τ => ge_5 rfl σ τ) (r := (R_Gat, F_Gat, 17)) rfl) ⟨Nat.le_trans (Nat.le_of_ble_eq_true rfl) hR.1, Nat.le_trans (Nat.le_of_ble_eq_true rfl) hR.2⟩ rfl hl.1 rfl (Nat.le_of_ble_eq_true rfl) d_Gat_startAnew_70 ⟨Nat.zero_le _, Nat.zero_le _⟩ (fun t H locs hp hW hS => ?_)
  subst hp
  have hW : gW g A ad np (sAF (sB0 a w1 w2 w3 w4) 0 6, gu x 2 0 (nI 0), o) v H := hW
  refine lv_aload_n hx hb d_Gat_startAnew_73 rfl (lv_at hl 0 rfl) ?_
  refine lv_aload_n hx hb d_Gat_startAnew_74 rfl (lv_at hl 0 rfl) ?_
  refine gf_Gat_9 X hW  d_Gat_startAnew_75 ?_
  refine gf_Gat_65 X hW  d_Gat_startAnew_78 ?_
  refine lv_iconst (v := 0) hx hb d_Gat_startAnew_81 (by decide) ?_
  refine gc_vV (As := [.ref (ad 22), .int 0]) (b := ad 24) (rest := []) X cw_Gat_70 (C_Gat_enqueueAll l (a := sAF (sB0 a w1 w2 w3 w4) 0 6) (x := gu x 2 0 (nI 0)) (o := o) (v := v) (k := 22) (n := kf) (f := a 11) (w := 0) (n0 := 0) hnp (gRow_22 np) hkf6 (fun a' x' hk => ⟨(hk 0 12 (by omega)).trans (e12), fun i _ => (hk 11 i (by omega)).trans (by rw [sAF_row _ _ (by decide)]; rfl)⟩) hkf rfl rfl (dst_0 _ _)) hW hS (gW_recv (ci := 5) (fs := gf5 ad) hK hW (by omega) (fun σ τ => ge_5 rfl σ τ) (r := (R_Gat, F_Gat, 17)) rfl) ⟨Nat.le_trans (Nat.le_of_ble_eq_true rfl) hR.1, Nat.le_trans (Nat.le_of_ble_eq_true rfl) hR.2⟩ rfl hl.1 rfl (Nat.le_of_ble_eq_true rfl) d_Gat_startAnew_82 ⟨Nat.zero_le _, Nat.zero_le _⟩ (fun t H locs hp hW hS => ?_)
  obtain ⟨x', nq', rfl, hx1, hx2, hq1, hd1⟩ := hp
  have hW : gW g A ad np (sQA (a 11) 0 (sAF (sB0 a w1 w2 w3 w4) 0 6) kf, x', o) v H := hW
  refine lv_aload_n hx hb d_Gat_startAnew_85 rfl (lv_at hl 0 rfl) ?_
  refine gc_vV (As := []) (b := ad 24) (rest := []) X cw_Gat_74 (C_Gat_setMark l (a := sQA (a 11) 0 (sAF (sB0 a w1 w2 w3 w4) 0 6) kf) (x := x') (o := o) (v := v)) hW hS (gW_recv (ci := 5) (fs := gf5 ad) hK hW (by omega) (fun σ τ => ge_5 rfl σ τ) (r := (R_Gat, F_Gat, 17)) rfl) ⟨Nat.le_trans (Nat.le_of_ble_eq_true rfl) hR.1, Nat.le_trans (Nat.le_of_ble_eq_true rfl) hR.2⟩ rfl hl.1 rfl (Nat.le_of_ble_eq_true rfl) d_Gat_startAnew_86 ⟨Nat.zero_le _, Nat.zero_le _⟩ (fun t H locs hp hW hS => ?_)
  subst hp
  have hW : gW g A ad np (sMk (sQA (a 11) 0 (sAF (sB0 a w1 w2 w3 w4) 0 6) kf), x', o) v H := hW
  refine hret ((sMk (sQA (a 11) 0 (sAF (sB0 a w1 w2 w3 w4) 0 6) kf), x', o), v) _ _ _ _ ?_ hW hS d_Gat_startAnew_89
  have e9 : sSt a w1 w2 w3 w4 = sMk (sQA (a 11) 0 (sAF (sB0 a w1 w2 w3 w4) 0 6) kf) := by unfold sSt; rw [cn_of e12 (by omega)]
  rw [e9]
  refine ⟨x', rfl, fun p hp => ?_, hx2.trans hq1.symm, ?_⟩
  · have k3 : sMk (sQA (a 11) 0 (sAF (sB0 a w1 w2 w3 w4) 0 6) kf) 3 = a 3 := (qk_row (qk_sQA _ _ _ _) (by decide) (by decide) (by decide)).trans (sAF_row _ _ (by decide) _)
    rw [k3, hx1 0 p (by omega), hx1 1 p (by omega)]
    exact hwx.1 p hp
  · rw [hx1 2 1 (by omega)]
    exact hwx.2.2
theorem C_Gat_startAnew (l : Launch) {g : gG} {A : Nat → Prop} {ad : Nat → Nat} {np : Nat} {a x : gA} {o : gL} {v : gS} {w1 w2 w3 w4 : Int32} (hw : WFw np a) (hwx : WX np a x) (hg : WFg np a) : CtV l y_Gat_startAnew b_Gat_startAnew 5 2 [.ref (ad 24), .int w1, .int w2, .int w3, .int w4] g A ad np (a, x, o) v (fun t => ∃ x', t = ((sSt a w1 w2 w3 w4, x', o), v) ∧ WX np (sSt a w1 w2 w3 w4) x') := mkV (by decide) rfl (Nat.le_of_ble_eq_true rfl) (B_Gat_startAnew l hw hwx hg)

set_option maxHeartbeats 400000 in
set_option maxRecDepth 20000 in
theorem B_Gat_fallBack (l : Launch) {g : gG} {A : Nat → Prop} {ad : Nat → Nat} {np : Nat} {a x : gA} {o : gL} {v : gS} (hnp : np ≤ 32) (hwx : WX np a x) (hg : WFg np a) : BdI l b_Gat_fallBack 2 R_Gat 2 [.ref (ad 24)] g A ad np (a, x, o) v (fun r t => r = a 0 33 ∧ ∃ x', t = ((sCr a, x', o), v) ∧ WX np (sCr a) x') := by
  intro p e R s m args below meth c Q ls X hW hS hR hl hret
  have hx := X.1.1
  have hb := X.1.2.1
  have hml := X.1.2.2.1
  have hown := X.1.2.2.2.1
  have hts := X.1.2.2.2.2
  have hK := X.2.1
  have hl : lv_has ls 2 [(0, .ref (ad 24))] := hl
  obtain ⟨hd, nq, nf, ng, mh, mq, mf, mg, hp0, e20, e21, e23, e25, e29, e30, e31, e32, e33, e15, hp4, hdq, mhd, mhq, mqq, mff, mgg, d12, d14, d15⟩ := hg
  have hnq := dst_le d12 hnp
  have hng := dst_le d15 hnp
  have hnf := dst_le d14 hnp
  refine lv_aload_n hx hb d_Gat_fallBack_0 rfl (lv_at hl 0 rfl) ?_
  refine gf_Gat_53 (z := nI hd) X hW  (gv_0_0_20 _) rfl e20 d_Gat_fallBack_1 ?_
  refine lv_aload_n hx hb d_Gat_fallBack_4 rfl (lv_at hl 0 rfl) ?_
  refine gf_Gat_104 (z := nI mh) X hW  (gv_0_0_29 _) rfl e29 d_Gat_fallBack_5 ?_
  refine lv_isub hx hb d_Gat_fallBack_8 ?_
  rw [show (nI hd) - (nI mh) = nI (hd - mh) from pk_sub mhd]
  refine lv_istore_n hx hb d_Gat_fallBack_9 rfl hl (by decide) rfl (fun ls hl => ?_)
  have hl : lv_has ls 2 [(1, .int (nI (hd - mh))), (0, .ref (ad 24))] := hl
  refine lv_aload_n hx hb d_Gat_fallBack_10 rfl (lv_at hl 1 rfl) ?_
  refine lv_aload_n hx hb d_Gat_fallBack_11 rfl (lv_at hl 1 rfl) ?_
  refine gf_Gat_104 (z := a 0 29) X hW  (gv_0_0_29 _) rfl rfl d_Gat_fallBack_12 ?_
  refine pf_Gat_53 (z := a 0 29) X hW hS  (gv_0_0_20 _) rfl rfl rfl d_Gat_fallBack_15 (fun H locs hW hS => ?_)
  have hW : gW g A ad np (gu a 0 20 (a 0 29), x, o) v H := hW
  refine lv_aload_n hx hb d_Gat_fallBack_18 rfl (lv_at hl 1 rfl) ?_
  refine gf_Gat_20 X hW  d_Gat_fallBack_19 ?_
  refine lv_aload_n hx hb d_Gat_fallBack_22 rfl (lv_at hl 1 rfl) ?_
  refine gf_Gat_128 (z := nI mq) X hW  (gv_0_0_30 _) rfl e30 d_Gat_fallBack_23 ?_
  refine gc_vV (As := [.int (nI mq)]) (b := ad 25) (rest := []) X cw_Gat_50 (C_Row_cutTo l (u := (gu a 0 20 (a 0 29), x, o)) (v := v) (mm := mq) (n := nq) (gRow_25 np) e21 mqq (by omega)) hW hS (gW_recv (ci := 3) (fs := gf3 ad 25) hK hW (by omega) (fun σ τ => ge_3 rfl σ τ) (r := (R_Row, F_Row, 2)) rfl) ⟨Nat.le_trans (Nat.le_of_ble_eq_true rfl) hR.1, Nat.le_trans (Nat.le_of_ble_eq_true rfl) hR.2⟩ rfl hl.1 rfl (Nat.le_of_ble_eq_true rfl) d_Gat_fallBack_26 ⟨Nat.zero_le _, Nat.zero_le _⟩ (fun t H locs hp hW hS => ?_)
  subst hp
  have hW : gW g A ad np (gu (gu a 0 20 (a 0 29)) 0 21 (nI mq), x, o) v H := hW
  refine lv_aload_n hx hb d_Gat_fallBack_29 rfl (lv_at hl 1 rfl) ?_
  refine gf_Gat_24 X hW  d_Gat_fallBack_30 ?_
  refine lv_aload_n hx hb d_Gat_fallBack_33 rfl (lv_at hl 1 rfl) ?_
  refine gf_Gat_128 (z := nI mq) X hW  (gv_0_0_30 _) rfl e30 d_Gat_fallBack_34 ?_
  refine gc_vV (As := [.int (nI mq)]) (b := ad 27) (rest := []) X cw_Gat_50 (C_Row_cutTo l (u := (gu (gu a 0 20 (a 0 29)) 0 21 (nI mq), x, o)) (v := v) (mm := mq) (n := nq) (gRow_27 np) (hwx.2.1.trans e21) mqq (by omega)) hW hS (gW_recv (ci := 3) (fs := gf3 ad 27) hK hW (by omega) (fun σ τ => ge_3 rfl σ τ) (r := (R_Row, F_Row, 2)) rfl) ⟨Nat.le_trans (Nat.le_of_ble_eq_true rfl) hR.1, Nat.le_trans (Nat.le_of_ble_eq_true rfl) hR.2⟩ rfl hl.1 rfl (Nat.le_of_ble_eq_true rfl) d_Gat_fallBack_37 ⟨Nat.zero_le _, Nat.zero_le _⟩ (fun t H locs hp hW hS => ?_)
  subst hp
  have hW : gW g A ad np (gu (gu a 0 20 (a 0 29)) 0 21 (nI mq), gu x 2 0 (nI mq), o) v H := hW
  refine lv_aload_n hx hb d_Gat_fallBack_40 rfl (lv_at hl 1 rfl) ?_
  refine gf_Gat_27 X hW  d_Gat_fallBack_41 ?_
  refine lv_aload_n hx hb d_Gat_fallBack_44 rfl (lv_at hl 1 rfl) ?_
  refine gf_Gat_131 (z := nI mf) X hW  (gv_0_0_31 _) rfl e31 d_Gat_fallBack_45 ?_
  refine gc_vV (As := [.int (nI mf)]) (b := ad 29) (rest := []) X cw_Gat_50 (C_Row_cutTo l (u := (gu (gu a 0 20 (a 0 29)) 0 21 (nI mq), gu x 2 0 (nI mq), o)) (v := v) (mm := mf) (n := nf) (gRow_29 np) e23 mff (by omega)) hW hS (gW_recv (ci := 3) (fs := gf3 ad 29) hK hW (by omega) (fun σ τ => ge_3 rfl σ τ) (r := (R_Row, F_Row, 2)) rfl) ⟨Nat.le_trans (Nat.le_of_ble_eq_true rfl) hR.1, Nat.le_trans (Nat.le_of_ble_eq_true rfl) hR.2⟩ rfl hl.1 rfl (Nat.le_of_ble_eq_true rfl) d_Gat_fallBack_48 ⟨Nat.zero_le _, Nat.zero_le _⟩ (fun t H locs hp hW hS => ?_)
  subst hp
  have hW : gW g A ad np (gu (gu (gu a 0 20 (a 0 29)) 0 21 (nI mq)) 0 23 (nI mf), gu x 2 0 (nI mq), o) v H := hW
  refine lv_aload_n hx hb d_Gat_fallBack_51 rfl (lv_at hl 1 rfl) ?_
  refine gf_Gat_30 X hW  d_Gat_fallBack_52 ?_
  refine lv_aload_n hx hb d_Gat_fallBack_55 rfl (lv_at hl 1 rfl) ?_
  refine gf_Gat_134 (z := nI mg) X hW  (gv_0_0_32 _) rfl e32 d_Gat_fallBack_56 ?_
  refine gc_vV (As := [.int (nI mg)]) (b := ad 31) (rest := []) X cw_Gat_50 (C_Row_cutTo l (u := (gu (gu (gu a 0 20 (a 0 29)) 0 21 (nI mq)) 0 23 (nI mf), gu x 2 0 (nI mq), o)) (v := v) (mm := mg) (n := ng) (gRow_31 np) e25 mgg (by omega)) hW hS (gW_recv (ci := 3) (fs := gf3 ad 31) hK hW (by omega) (fun σ τ => ge_3 rfl σ τ) (r := (R_Row, F_Row, 2)) rfl) ⟨Nat.le_trans (Nat.le_of_ble_eq_true rfl) hR.1, Nat.le_trans (Nat.le_of_ble_eq_true rfl) hR.2⟩ rfl hl.1 rfl (Nat.le_of_ble_eq_true rfl) d_Gat_fallBack_59 ⟨Nat.zero_le _, Nat.zero_le _⟩ (fun t H locs hp hW hS => ?_)
  subst hp
  have hW : gW g A ad np (gu (gu (gu (gu a 0 20 (a 0 29)) 0 21 (nI mq)) 0 23 (nI mf)) 0 25 (nI mg), gu x 2 0 (nI mq), o) v H := hW
  refine lv_aload_n hx hb d_Gat_fallBack_62 rfl (lv_at hl 1 rfl) ?_
  refine lv_aload_n hx hb d_Gat_fallBack_63 rfl (lv_at hl 1 rfl) ?_
  refine gf_Gat_56 (z := a 0 26) X hW  (gv_0_0_26 _) rfl rfl d_Gat_fallBack_64 ?_
  refine lv_aload_n hx hb d_Gat_fallBack_67 rfl (lv_at hl 1 rfl) ?_
  refine gf_Gat_44 (z := a 0 16) X hW  (gv_0_0_16 _) rfl rfl d_Gat_fallBack_68 ?_
  refine lv_iadd hx hb d_Gat_fallBack_71 ?_
  refine gc_vV (As := [.int ((a 0 26) + (a 0 16))]) (b := ad 24) (rest := []) X cw_Gat_62 (C_Gat_setAllFrom l (a := gu (gu (gu (gu a 0 20 (a 0 29)) 0 21 (nI mq)) 0 23 (nI mf)) 0 25 (nI mg)) (x := gu x 2 0 (nI mq)) (o := o) (v := v) (w := a 0 26 + a 0 16)) hW hS (gW_recv (ci := 5) (fs := gf5 ad) hK hW (by omega) (fun σ τ => ge_5 rfl σ τ) (r := (R_Gat, F_Gat, 17)) rfl) ⟨Nat.le_trans (Nat.le_of_ble_eq_true rfl) hR.1, Nat.le_trans (Nat.le_of_ble_eq_true rfl) hR.2⟩ rfl hl.1 rfl (Nat.le_of_ble_eq_true rfl) d_Gat_fallBack_72 ⟨Nat.zero_le _, Nat.zero_le _⟩ (fun t H locs hp hW hS => ?_)
  subst hp
  have hW := gW_33 0 hW
  have hW : gW g A ad np (gu (sAF (gu (gu (gu (gu a 0 20 (a 0 29)) 0 21 (nI mq)) 0 23 (nI mf)) 0 25 (nI mg)) (a 0 26 + a 0 16) 6) 0 33 0, gu x 2 0 (nI mq), o) v H := hW
  refine lv_iload_n hx hb d_Gat_fallBack_75 rfl (lv_at hl 0 rfl) ?_
  refine hret (nI (hd - mh)) ((gu (sAF (gu (gu (gu (gu a 0 20 (a 0 29)) 0 21 (nI mq)) 0 23 (nI mf)) 0 25 (nI mg)) (a 0 26 + a 0 16) 6) 0 33 0, gu x 2 0 (nI mq), o), v) _ _ _ _ ?_ hW hS d_Gat_fallBack_76
  have e9 : sCr a = gu (sAF (gu (gu (gu (gu a 0 20 (a 0 29)) 0 21 (nI mq)) 0 23 (nI mf)) 0 25 (nI mg)) (a 0 26 + a 0 16) 6) 0 33 0 := by unfold sCr; rw [e30, e31, e32]
  rw [e9]
  exact ⟨e33.symm, _, rfl, fun p hp => hwx.1 p hp, rfl, hwx.2.2⟩
theorem C_Gat_fallBack (l : Launch) {g : gG} {A : Nat → Prop} {ad : Nat → Nat} {np : Nat} {a x : gA} {o : gL} {v : gS} (hnp : np ≤ 32) (hwx : WX np a x) (hg : WFg np a) : CtI l y_Gat_fallBack b_Gat_fallBack 2 .int 2 [.ref (ad 24)] g A ad np (a, x, o) v (fun r t => r = a 0 33 ∧ ∃ x', t = ((sCr a, x', o), v) ∧ WX np (sCr a) x') := mkI (by decide) rfl (Nat.le_of_ble_eq_true rfl) (fun _ _ _ => rfl) (B_Gat_fallBack l hnp hwx hg)
end
section
/-! The calls, as answers and steps of the abstract state. -/
theorem gu_id {a : gA} {k j : Nat} {v : Int32} (h : a k j = v) : gu a k j v = a := by
  funext k' j'
  by_cases e : k' = k ∧ j' = j
  · obtain ⟨rfl, rfl⟩ := e
    rw [gu_hit, h]
  · exact gu_off e
def pW (a : gA) (p w : Int32) : Bool := (decide (a 0 13 = 0) && sIs a p) && (sIn w 0 25 && decide ((a 5 p.toNatClampNeg).toNatClampNeg < 8))
def sW (a : gA) (p w : Int32) : gA := if pW a p w = true then gu (gu a 4 (8 * p.toNatClampNeg + (a 5 p.toNatClampNeg).toNatClampNeg) w) 5 p.toNatClampNeg (nI ((a 5 p.toNatClampNeg).toNatClampNeg + 1)) else a
def pK (a : gA) (p w : Int32) : Bool := (decide (a 0 13 = 0) && sIs a p) && (sIs a w && decide ((a 7 p.toNatClampNeg).toNatClampNeg < 5))
def sK (a : gA) (p w : Int32) : gA := if pK a p w = true then gu (gu a 6 (5 * p.toNatClampNeg + (a 7 p.toNatClampNeg).toNatClampNeg) w) 7 p.toNatClampNeg (nI ((a 7 p.toNatClampNeg).toNatClampNeg + 1)) else a
def pM (a : gA) (p w : Int32) : Bool := (decide (a 0 13 = 0) && sIs a p) && sIs a w
def sM (a : gA) (p w : Int32) : gA := if pM a p w = true then gu a 3 p.toNatClampNeg w else a
def pD (a : gA) (p : Int32) : Bool := decide (a 0 13 = 0) && sIs a p
def sD (a : gA) (p : Int32) : gA := if pD a p = true then gu a 3 p.toNatClampNeg (-3) else a
def pR (a : gA) (h w : Int32) : Bool := decide (a 0 13 = 0) && (sIn h 0 5 && (sIn w 0 999999 && decide ((a 10 h.toNatClampNeg).toNatClampNeg < 4)))
def sR (a : gA) (h w b : Int32) : gA := if pR a h w = true then gu (gu (gu a 8 (4 * h.toNatClampNeg + (a 10 h.toNatClampNeg).toNatClampNeg) w) 9 (4 * h.toNatClampNeg + (a 10 h.toNatClampNeg).toNatClampNeg) b) 10 h.toNatClampNeg (nI ((a 10 h.toNatClampNeg).toNatClampNeg + 1)) else a
def pF (a : gA) (p : Int32) : Bool := (decide (a 0 13 = 0) && sIs a p) && decide (cn a 12 < 6)
def sF (a : gA) (p : Int32) : gA := if pF a p = true then gu (gu a 11 (cn a 12) p) 0 12 (nI (cn a 12 + 1)) else a
def pB (a : gA) (w1 w2 w3 w4 : Int32) : Bool := decide (a 0 13 = 0) && (decide (¬ a 0 12 = 0) && (sIn w1 0 6 && (sIn w2 0 4 && (sIn w3 0 9 && sIn w4 1 8))))
def sB (a : gA) (w1 w2 w3 w4 : Int32) : gA := if pB a w1 w2 w3 w4 = true then gu (sSt a w1 w2 w3 w4) 0 13 1 else a
def sWk (a : gA) : Nat → gA
  | 0 => a
  | n + 1 => if cn (sWk a n) 20 < cn (sWk a n) 21 then sH (sWk a n) else sWk a n
def pWk (a : gA) (n : Int32) : Bool := decide (¬ a 0 13 = 0) && sIn n 1 10
def rWk (a : gA) (n : Int32) : Int32 := if pWk a n = true then sWk a n.toNatClampNeg 0 28 - a 0 28 else -1
def sWo (a : gA) (n : Int32) : gA := if pWk a n = true then sWk a n.toNatClampNeg else a
def rCr (a : gA) : Int32 := if a 0 13 = 0 then -1 else a 0 33
def sCra (a : gA) : gA := if a 0 13 = 0 then a else sCr a
def rFo (a : gA) (p : Int32) : Int32 := if a 0 13 = 0 ∨ sIs a p = false then -1 else sC2 a (cn a 15 + 1) p.toNatClampNeg
def rAt (a : gA) (i : Int32) : Int32 := if a 0 13 = 0 then -1 else if 0 ≤ i ∧ i < a 0 25 then a 15 i.toNatClampNeg else -1
theorem sWk_stop {a : gA} {i : Nat} (h : ¬ cn (sWk a i) 20 < cn (sWk a i) 21) : ∀ k, sWk a (i + k) = sWk a i
  | 0 => rfl
  | k + 1 => by
    show (if cn (sWk a (i + k)) 20 < cn (sWk a (i + k)) 21 then sH (sWk a (i + k)) else sWk a (i + k)) = _
    rw [sWk_stop h k, if_neg h]
theorem sWk_wf {np : Nat} {a : gA} (hw : WFw np a) (hg : WFg np a) : ∀ n, WFw np (sWk a n) ∧ WFg np (sWk a n)
  | 0 => ⟨hw, hg⟩
  | n + 1 => by
    obtain ⟨h1, h2⟩ := sWk_wf hw hg n
    show WFw np (if _ then _ else _) ∧ WFg np (if _ then _ else _)
    split
    · rename_i c
      exact ⟨WFw_wk (wk_sH _) h1, WFg_sH h1 h2 c⟩
    · exact ⟨h1, h2⟩
theorem sIn_of {w : Int32} {lo hi : Nat} (hl : lo < 2 ^ 30) (hh : hi < 2 ^ 30) (h : sIn w (nI lo) (nI hi) = true) : ∃ n, lo ≤ n ∧ n ≤ hi ∧ w = nI n := by
  unfold sIn at h
  rw [Bool.and_eq_true, decide_eq_true_eq, decide_eq_true_eq] at h
  rcases pk_ix w (n := hi + 1) (by omega) with q | q | ⟨j, hj, rfl⟩
  · exact absurd (Int32.lt_of_lt_of_le q (Int32.le_trans (nI_pos' (by omega)) h.1)) (i_irr _)
  · exact absurd (Int32.le_trans q h.2) (Int32.not_le.mpr (nI_lt (by omega) (by omega)))
  · exact ⟨j, (nI_leI (by omega) (by omega)).mp h.1, by omega, rfl⟩
end
section
/-! specs_pg -/
set_option maxHeartbeats 400000 in
set_option maxRecDepth 20000 in
theorem B_PG_write (l : Launch) {g : gG} {A : Nat → Prop} {ad : Nat → Nat} {np : Nat} {a x : gA} {o : gL} {v : gS} {w1 w2 : Int32} (hw : WFw np a) : BdI l b_PG_write 3 R_PG 2 [.ref (ad 0), .int w1, .int w2] g A ad np (a, x, o) v (fun r t => t = ((sW a w1 w2, x, o), v) ∧ r = bI (pW a w1 w2)) := by
  intro p e R s m args below meth c Q ls X hW hS hR hl hret
  have hx := X.1.1
  have hb := X.1.2.1
  have hml := X.1.2.2.1
  have hown := X.1.2.2.2.1
  have hts := X.1.2.2.2.2
  have hK := X.2.1
  have hl : lv_has ls 3 [(0, .ref (ad 0)), (1, .int w1), (2, .int w2)] := hl
  have hnp := hw.1
  have hpc := hw.2.1
  refine lv_aload_n hx hb d_PG_write_0 rfl (lv_at hl 0 rfl) ?_
  refine lv_iload_n hx hb d_PG_write_1 rfl (lv_at hl 1 rfl) ?_
  refine gc_iV (As := [.int w1]) (b := ad 0) (rest := []) X cw_PG_42 (C_PG_canChange l (a := a) (x := x) (o := o) (v := v) (w := w1)) hW hS (gW_recv (ci := 0) (fs := gf0 ad) hK hW (by omega) (fun σ τ => ge_0 rfl σ τ) (r := (R_PG, F_PG, 4)) rfl) ⟨Nat.le_trans (Nat.le_of_ble_eq_true rfl) hR.1, Nat.le_trans (Nat.le_of_ble_eq_true rfl) hR.2⟩ rfl hl.1 rfl (Nat.le_of_ble_eq_true rfl) d_PG_write_2 ⟨Nat.zero_le _, Nat.zero_le _⟩ (fun r t H locs hp hW hS => ?_)
  obtain ⟨rfl, rfl⟩ := hp
  have hW : gW g A ad np (a, x, o) v H := hW
  refine lv_if_eq (tgt := 41) hx hb d_PG_write_5 (by decide) (fun h5 => ?_) (fun h5 => ?_)
  · -- 5 t
    have h5 : (decide (a 0 13 = 0) && sIs a w1) = false := bI_0 h5
    refine lv_iconst (v := 0) hx hb d_PG_write_41 (by decide) ?_
    refine hret 0 ((a, x, o), v) _ _ _ _ ?_ hW hS d_PG_write_42
    first
      | (have e9 : pW a w1 w2 = false := by unfold pW; rw [h5]; rfl
         exact ⟨by unfold sW; rw [if_neg (by rw [e9]; decide)], by rw [e9]; rfl⟩)
      | (have e9 : pW a (nI P) w2 = false := by unfold pW; rw [h15]; simp
         exact ⟨by unfold sW; rw [if_neg (by rw [e9]; decide)], by rw [e9]; rfl⟩)
      | (have e9 : pW a (nI P) w2 = false := by unfold pW; rw [ewc, decide_eq_false (Nat.not_lt.mpr hc8)]; simp
         exact ⟨by unfold sW; rw [if_neg (by rw [e9]; decide)], by rw [e9]; rfl⟩)
  · -- 5 f
    have h5 : (decide (a 0 13 = 0) && sIs a w1) = true := bI_n0 h5
    rw [Bool.and_eq_true, decide_eq_true_eq] at h5
    obtain ⟨hon, hpg⟩ := h5
    obtain ⟨P, hP, rfl⟩ := sIs_of hpc hnp hpg
    obtain ⟨wc, hwc8, hwc⟩ := (hw.2.2.1 P hP).2.2.2.1
    have ewc : (a 5 (nI P).toNatClampNeg).toNatClampNeg = wc := by rw [nI_clamp (by omega), hwc, nI_clamp (by omega)]
    refine lv_iload_n hx hb d_PG_write_8 rfl (lv_at hl 2 rfl) ?_
    refine lv_iconst (v := 0) hx hb d_PG_write_9 (by decide) ?_
    refine lv_bipush (v := 25) hx hb d_PG_write_10 (by decide) ?_
    refine gc_iS (As := [.int w2, .int 0, .int 25]) (rest := []) X cw_PG_46 (C_PG_isWithin l (w0 := w2) (w1 := 0) (w2 := 25)) hW hS ⟨Nat.le_trans (Nat.le_of_ble_eq_true rfl) hR.1, Nat.le_trans (Nat.le_of_ble_eq_true rfl) hR.2⟩ rfl hl.1 rfl (Nat.le_of_ble_eq_true rfl) d_PG_write_12 ⟨Nat.zero_le _, Nat.zero_le _⟩ (fun r t H locs hp hW hS => ?_)
    obtain ⟨rfl, rfl⟩ := hp
    have hW : gW g A ad np (a, x, o) v H := hW
    refine lv_if_eq (tgt := 41) hx hb d_PG_write_15 (by decide) (fun h15 => ?_) (fun h15 => ?_)
    · -- 15 t
      have h15 : (sIn w2 0 25) = false := bI_0 h15
      refine lv_iconst (v := 0) hx hb d_PG_write_41 (by decide) ?_
      refine hret 0 ((a, x, o), v) _ _ _ _ ?_ hW hS d_PG_write_42
      first
        | (have e9 : pW a w1 w2 = false := by unfold pW; rw [h5]; rfl
           exact ⟨by unfold sW; rw [if_neg (by rw [e9]; decide)], by rw [e9]; rfl⟩)
        | (have e9 : pW a (nI P) w2 = false := by unfold pW; rw [h15]; simp
           exact ⟨by unfold sW; rw [if_neg (by rw [e9]; decide)], by rw [e9]; rfl⟩)
        | (have e9 : pW a (nI P) w2 = false := by unfold pW; rw [ewc, decide_eq_false (Nat.not_lt.mpr hc8)]; simp
           exact ⟨by unfold sW; rw [if_neg (by rw [e9]; decide)], by rw [e9]; rfl⟩)
    · -- 15 f
      have h15 : (sIn w2 0 25) = true := bI_n0 h15
      refine lv_aload_n hx hb d_PG_write_18 rfl (lv_at hl 0 rfl) ?_
      refine gf_PG_10 X hW  d_PG_write_19 ?_
      refine gf_PG_50 X hW  d_PG_write_22 ?_
      refine lv_iload_n hx hb d_PG_write_25 rfl (lv_at hl 1 rfl) ?_
      refine gy_aP (i := P) hx hb hK hW (by omega) hnp rfl d_PG_write_26 ?_
      refine gf_PG_54 X hW (by unfold gp; omega) (gk_p0 P) d_PG_write_27 ?_
      refine lv_iload_n hx hb d_PG_write_30 rfl (lv_at hl 2 rfl) ?_
      refine gc_iV (As := [.int w2]) (b := ad (gp P + 1)) (rest := []) X cw_PG_60 (C_Row_add l (u := (a, x, o)) (v := v) (x := w2) (n := wc) (gRow_b hP) hwc hwc8) hW hS (gW_recv (ci := 3) (fs := gf3 ad (gp P + 1)) hK hW (by unfold gp; omega) (fun σ τ => ge_3 (gk_p1 P) σ τ) (r := (R_Row, F_Row, 2)) rfl) ⟨Nat.le_trans (Nat.le_of_ble_eq_true rfl) hR.1, Nat.le_trans (Nat.le_of_ble_eq_true rfl) hR.2⟩ rfl hl.1 rfl (Nat.le_of_ble_eq_true rfl) d_PG_write_31 ⟨Nat.zero_le _, Nat.zero_le _⟩ (fun r t H locs hp hW hS => ?_)
      rcases Nat.lt_or_ge wc 8 with hc8 | hc8
      · -- 1
        obtain ⟨rfl, rfl⟩ := hp.1 hc8
        have hW : gW g A ad np (gu (gu a 4 (8 * P + wc) w2) 5 P (nI (wc + 1)), x, o) v H := hW
        refine lv_if_eq (tgt := 41) hx hb d_PG_write_34 (by decide) (fun h34 => ?_) (fun h34 => ?_)
        · exact absurd h34 (by decide)
        · -- 34 f
          refine lv_iconst (v := 1) hx hb d_PG_write_37 (by decide) ?_
          refine lv_goto (tgt := 42) hx hb d_PG_write_38 (by decide) ?_
          refine hret 1 ((gu (gu a 4 (8 * P + wc) w2) 5 P (nI (wc + 1)), x, o), v) _ _ _ _ ?_ hW hS d_PG_write_42
          have e9 : pW a (nI P) w2 = true := by unfold pW; rw [decide_eq_true hon, hpg, h15, ewc, decide_eq_true hc8]; rfl
          exact ⟨by unfold sW; rw [if_pos e9, ewc, nI_clamp (by omega)], by rw [e9]; rfl⟩
      · -- 0
        obtain ⟨rfl, rfl⟩ := hp.2 hc8
        have hW : gW g A ad np (a, x, o) v H := hW
        refine lv_if_eq (tgt := 41) hx hb d_PG_write_34 (by decide) (fun h34 => ?_) (fun h34 => ?_)
        · -- 34 t
          refine lv_iconst (v := 0) hx hb d_PG_write_41 (by decide) ?_
          refine hret 0 ((a, x, o), v) _ _ _ _ ?_ hW hS d_PG_write_42
          first
            | (have e9 : pW a w1 w2 = false := by unfold pW; rw [h5]; rfl
               exact ⟨by unfold sW; rw [if_neg (by rw [e9]; decide)], by rw [e9]; rfl⟩)
            | (have e9 : pW a (nI P) w2 = false := by unfold pW; rw [h15]; simp
               exact ⟨by unfold sW; rw [if_neg (by rw [e9]; decide)], by rw [e9]; rfl⟩)
            | (have e9 : pW a (nI P) w2 = false := by unfold pW; rw [ewc, decide_eq_false (Nat.not_lt.mpr hc8)]; simp
               exact ⟨by unfold sW; rw [if_neg (by rw [e9]; decide)], by rw [e9]; rfl⟩)
        · exact absurd h34 (by decide)
theorem C_PG_write (l : Launch) {g : gG} {A : Nat → Prop} {ad : Nat → Nat} {np : Nat} {a x : gA} {o : gL} {v : gS} {w1 w2 : Int32} (hw : WFw np a) : CtI l y_PG_write b_PG_write 3 .boolean 2 [.ref (ad 0), .int w1, .int w2] g A ad np (a, x, o) v (fun r t => t = ((sW a w1 w2, x, o), v) ∧ r = bI (pW a w1 w2)) := mkI (by decide) rfl (Nat.le_of_ble_eq_true rfl) (fun r t h => h.2 ▸ bI_nar _) (B_PG_write l hw)

set_option maxHeartbeats 400000 in
set_option maxRecDepth 20000 in
theorem B_PG_link (l : Launch) {g : gG} {A : Nat → Prop} {ad : Nat → Nat} {np : Nat} {a x : gA} {o : gL} {v : gS} {w1 w2 : Int32} (hw : WFw np a) : BdI l b_PG_link 3 R_PG 2 [.ref (ad 0), .int w1, .int w2] g A ad np (a, x, o) v (fun r t => t = ((sK a w1 w2, x, o), v) ∧ r = bI (pK a w1 w2)) := by
  intro p e R s m args below meth c Q ls X hW hS hR hl hret
  have hx := X.1.1
  have hb := X.1.2.1
  have hml := X.1.2.2.1
  have hown := X.1.2.2.2.1
  have hts := X.1.2.2.2.2
  have hK := X.2.1
  have hl : lv_has ls 3 [(0, .ref (ad 0)), (1, .int w1), (2, .int w2)] := hl
  have hnp := hw.1
  have hpc := hw.2.1
  refine lv_aload_n hx hb d_PG_link_0 rfl (lv_at hl 0 rfl) ?_
  refine lv_iload_n hx hb d_PG_link_1 rfl (lv_at hl 1 rfl) ?_
  refine gc_iV (As := [.int w1]) (b := ad 0) (rest := []) X cw_PG_42 (C_PG_canChange l (a := a) (x := x) (o := o) (v := v) (w := w1)) hW hS (gW_recv (ci := 0) (fs := gf0 ad) hK hW (by omega) (fun σ τ => ge_0 rfl σ τ) (r := (R_PG, F_PG, 4)) rfl) ⟨Nat.le_trans (Nat.le_of_ble_eq_true rfl) hR.1, Nat.le_trans (Nat.le_of_ble_eq_true rfl) hR.2⟩ rfl hl.1 rfl (Nat.le_of_ble_eq_true rfl) d_PG_link_2 ⟨Nat.zero_le _, Nat.zero_le _⟩ (fun r t H locs hp hW hS => ?_)
  obtain ⟨rfl, rfl⟩ := hp
  have hW : gW g A ad np (a, x, o) v H := hW
  refine lv_if_eq (tgt := 42) hx hb d_PG_link_5 (by decide) (fun h5 => ?_) (fun h5 => ?_)
  · -- 5 t
    have h5 : (decide (a 0 13 = 0) && sIs a w1) = false := bI_0 h5
    refine lv_iconst (v := 0) hx hb d_PG_link_42 (by decide) ?_
    refine hret 0 ((a, x, o), v) _ _ _ _ ?_ hW hS d_PG_link_43
    first
      | (have e9 : pK a w1 w2 = false := by unfold pK; rw [h5]; rfl
         exact ⟨by unfold sK; rw [if_neg (by rw [e9]; decide)], by rw [e9]; rfl⟩)
      | (have e9 : pK a (nI P) w2 = false := by unfold pK; rw [h16]; simp
         exact ⟨by unfold sK; rw [if_neg (by rw [e9]; decide)], by rw [e9]; rfl⟩)
      | (have e9 : pK a (nI P) w2 = false := by unfold pK; rw [ewc, decide_eq_false (Nat.not_lt.mpr hc8)]; simp
         exact ⟨by unfold sK; rw [if_neg (by rw [e9]; decide)], by rw [e9]; rfl⟩)
  · -- 5 f
    have h5 : (decide (a 0 13 = 0) && sIs a w1) = true := bI_n0 h5
    rw [Bool.and_eq_true, decide_eq_true_eq] at h5
    obtain ⟨hon, hpg⟩ := h5
    obtain ⟨P, hP, rfl⟩ := sIs_of hpc hnp hpg
    obtain ⟨wc, hwc8, hwc, -⟩ := (hw.2.2.1 P hP).2.2.2.2
    have ewc : (a 7 (nI P).toNatClampNeg).toNatClampNeg = wc := by rw [nI_clamp (by omega), hwc, nI_clamp (by omega)]
    refine lv_aload_n hx hb d_PG_link_8 rfl (lv_at hl 0 rfl) ?_
    refine gf_PG_10 X hW  d_PG_link_9 ?_
    refine lv_iload_n hx hb d_PG_link_12 rfl (lv_at hl 2 rfl) ?_
    refine gc_iV (As := [.int w2]) (b := ad 1) (rest := []) X cw_PG_65 (C_Web_isPage l (w := w2)) hW hS (gW_recv (ci := 1) (fs := gf1 ad) hK hW (by omega) (fun σ τ => ge_1 rfl σ τ) (r := (R_Web, F_Web, 4)) rfl) ⟨Nat.le_trans (Nat.le_of_ble_eq_true rfl) hR.1, Nat.le_trans (Nat.le_of_ble_eq_true rfl) hR.2⟩ rfl hl.1 rfl (Nat.le_of_ble_eq_true rfl) d_PG_link_13 ⟨Nat.zero_le _, Nat.zero_le _⟩ (fun r t H locs hp hW hS => ?_)
    obtain ⟨rfl, rfl⟩ := hp
    have hW : gW g A ad np (a, x, o) v H := hW
    refine lv_if_eq (tgt := 42) hx hb d_PG_link_16 (by decide) (fun h16 => ?_) (fun h16 => ?_)
    · -- 16 t
      have h16 : (sIs a w2) = false := bI_0 h16
      refine lv_iconst (v := 0) hx hb d_PG_link_42 (by decide) ?_
      refine hret 0 ((a, x, o), v) _ _ _ _ ?_ hW hS d_PG_link_43
      first
        | (have e9 : pK a w1 w2 = false := by unfold pK; rw [h5]; rfl
           exact ⟨by unfold sK; rw [if_neg (by rw [e9]; decide)], by rw [e9]; rfl⟩)
        | (have e9 : pK a (nI P) w2 = false := by unfold pK; rw [h16]; simp
           exact ⟨by unfold sK; rw [if_neg (by rw [e9]; decide)], by rw [e9]; rfl⟩)
        | (have e9 : pK a (nI P) w2 = false := by unfold pK; rw [ewc, decide_eq_false (Nat.not_lt.mpr hc8)]; simp
           exact ⟨by unfold sK; rw [if_neg (by rw [e9]; decide)], by rw [e9]; rfl⟩)
    · -- 16 f
      have h16 : (sIs a w2) = true := bI_n0 h16
      refine lv_aload_n hx hb d_PG_link_19 rfl (lv_at hl 0 rfl) ?_
      refine gf_PG_10 X hW  d_PG_link_20 ?_
      refine gf_PG_50 X hW  d_PG_link_23 ?_
      refine lv_iload_n hx hb d_PG_link_26 rfl (lv_at hl 1 rfl) ?_
      refine gy_aP (i := P) hx hb hK hW (by omega) hnp rfl d_PG_link_27 ?_
      refine gf_PG_68 X hW (by unfold gp; omega) (gk_p0 P) d_PG_link_28 ?_
      refine lv_iload_n hx hb d_PG_link_31 rfl (lv_at hl 2 rfl) ?_
      refine gc_iV (As := [.int w2]) (b := ad (gp P + 3)) (rest := []) X cw_PG_60 (C_Row_add l (u := (a, x, o)) (v := v) (x := w2) (n := wc) (gRow_l hP) hwc hwc8) hW hS (gW_recv (ci := 3) (fs := gf3 ad (gp P + 3)) hK hW (by unfold gp; omega) (fun σ τ => ge_3 (gk_p3 P) σ τ) (r := (R_Row, F_Row, 2)) rfl) ⟨Nat.le_trans (Nat.le_of_ble_eq_true rfl) hR.1, Nat.le_trans (Nat.le_of_ble_eq_true rfl) hR.2⟩ rfl hl.1 rfl (Nat.le_of_ble_eq_true rfl) d_PG_link_32 ⟨Nat.zero_le _, Nat.zero_le _⟩ (fun r t H locs hp hW hS => ?_)
      rcases Nat.lt_or_ge wc 5 with hc8 | hc8
      · -- 1
        obtain ⟨rfl, rfl⟩ := hp.1 hc8
        have hW : gW g A ad np (gu (gu a 6 (5 * P + wc) w2) 7 P (nI (wc + 1)), x, o) v H := hW
        refine lv_if_eq (tgt := 42) hx hb d_PG_link_35 (by decide) (fun h35 => ?_) (fun h35 => ?_)
        · exact absurd h35 (by decide)
        · -- 35 f
          refine lv_iconst (v := 1) hx hb d_PG_link_38 (by decide) ?_
          refine lv_goto (tgt := 43) hx hb d_PG_link_39 (by decide) ?_
          refine hret 1 ((gu (gu a 6 (5 * P + wc) w2) 7 P (nI (wc + 1)), x, o), v) _ _ _ _ ?_ hW hS d_PG_link_43
          have e9 : pK a (nI P) w2 = true := by unfold pK; rw [decide_eq_true hon, hpg, h16, ewc, decide_eq_true hc8]; rfl
          exact ⟨by unfold sK; rw [if_pos e9, ewc, nI_clamp (by omega)], by rw [e9]; rfl⟩
      · -- 0
        obtain ⟨rfl, rfl⟩ := hp.2 hc8
        have hW : gW g A ad np (a, x, o) v H := hW
        refine lv_if_eq (tgt := 42) hx hb d_PG_link_35 (by decide) (fun h35 => ?_) (fun h35 => ?_)
        · -- 35 t
          refine lv_iconst (v := 0) hx hb d_PG_link_42 (by decide) ?_
          refine hret 0 ((a, x, o), v) _ _ _ _ ?_ hW hS d_PG_link_43
          first
            | (have e9 : pK a w1 w2 = false := by unfold pK; rw [h5]; rfl
               exact ⟨by unfold sK; rw [if_neg (by rw [e9]; decide)], by rw [e9]; rfl⟩)
            | (have e9 : pK a (nI P) w2 = false := by unfold pK; rw [h16]; simp
               exact ⟨by unfold sK; rw [if_neg (by rw [e9]; decide)], by rw [e9]; rfl⟩)
            | (have e9 : pK a (nI P) w2 = false := by unfold pK; rw [ewc, decide_eq_false (Nat.not_lt.mpr hc8)]; simp
               exact ⟨by unfold sK; rw [if_neg (by rw [e9]; decide)], by rw [e9]; rfl⟩)
        · exact absurd h35 (by decide)
theorem C_PG_link (l : Launch) {g : gG} {A : Nat → Prop} {ad : Nat → Nat} {np : Nat} {a x : gA} {o : gL} {v : gS} {w1 w2 : Int32} (hw : WFw np a) : CtI l y_PG_link b_PG_link 3 .boolean 2 [.ref (ad 0), .int w1, .int w2] g A ad np (a, x, o) v (fun r t => t = ((sK a w1 w2, x, o), v) ∧ r = bI (pK a w1 w2)) := mkI (by decide) rfl (Nat.le_of_ble_eq_true rfl) (fun r t h => h.2 ▸ bI_nar _) (B_PG_link l hw)

set_option maxHeartbeats 400000 in
set_option maxRecDepth 20000 in
theorem B_PG_move (l : Launch) {g : gG} {A : Nat → Prop} {ad : Nat → Nat} {np : Nat} {a x : gA} {o : gL} {v : gS} {w1 w2 : Int32} (hw : WFw np a) : BdI l b_PG_move 3 R_PG 2 [.ref (ad 0), .int w1, .int w2] g A ad np (a, x, o) v (fun r t => r = bI (pM a w1 w2) ∧ (pM a w1 w2 = true → t = ((sM a w1 w2, gu (gu x 0 w1.toNatClampNeg 1) 1 w1.toNatClampNeg w2, o), v)) ∧ (pM a w1 w2 = false → t = ((sM a w1 w2, x, o), v))) := by
  intro p e R s m args below meth c Q ls X hW hS hR hl hret
  have hx := X.1.1
  have hb := X.1.2.1
  have hml := X.1.2.2.1
  have hown := X.1.2.2.2.1
  have hts := X.1.2.2.2.2
  have hK := X.2.1
  have hl : lv_has ls 3 [(0, .ref (ad 0)), (1, .int w1), (2, .int w2)] := hl
  have hnp := hw.1
  have hpc := hw.2.1
  refine lv_aload_n hx hb d_PG_move_0 rfl (lv_at hl 0 rfl) ?_
  refine lv_iload_n hx hb d_PG_move_1 rfl (lv_at hl 1 rfl) ?_
  refine gc_iV (As := [.int w1]) (b := ad 0) (rest := []) X cw_PG_42 (C_PG_canChange l (a := a) (x := x) (o := o) (v := v) (w := w1)) hW hS (gW_recv (ci := 0) (fs := gf0 ad) hK hW (by omega) (fun σ τ => ge_0 rfl σ τ) (r := (R_PG, F_PG, 4)) rfl) ⟨Nat.le_trans (Nat.le_of_ble_eq_true rfl) hR.1, Nat.le_trans (Nat.le_of_ble_eq_true rfl) hR.2⟩ rfl hl.1 rfl (Nat.le_of_ble_eq_true rfl) d_PG_move_2 ⟨Nat.zero_le _, Nat.zero_le _⟩ (fun r t H locs hp hW hS => ?_)
  obtain ⟨rfl, rfl⟩ := hp
  have hW : gW g A ad np (a, x, o) v H := hW
  refine lv_if_eq (tgt := 19) hx hb d_PG_move_5 (by decide) (fun h5 => ?_) (fun h5 => ?_)
  · -- 5 t
    have h5 : (decide (a 0 13 = 0) && sIs a w1) = false := bI_0 h5
    refine lv_iconst (v := 0) hx hb d_PG_move_19 (by decide) ?_
    refine hret 0 ((a, x, o), v) _ _ _ _ ?_ hW hS d_PG_move_20
    first
      | (have e9 : pM a w1 w2 = false := by unfold pM; rw [h5]; rfl
         exact ⟨by rw [e9]; rfl, fun q => absurd (e9.symm.trans q) (by decide), fun _ => by unfold sM; rw [if_neg (by rw [e9]; decide)]⟩)
      | (have e9 : pM a (nI P) w2 = false := by unfold pM; rw [h16, Bool.and_false]
         exact ⟨by rw [e9]; rfl, fun q => absurd (e9.symm.trans q) (by decide), fun _ => by unfold sM; rw [if_neg (by rw [e9]; decide)]⟩)
  · -- 5 f
    have h5 : (decide (a 0 13 = 0) && sIs a w1) = true := bI_n0 h5
    rw [Bool.and_eq_true, decide_eq_true_eq] at h5
    obtain ⟨hon, hpg⟩ := h5
    obtain ⟨P, hP, rfl⟩ := sIs_of hpc hnp hpg
    refine lv_aload_n hx hb d_PG_move_8 rfl (lv_at hl 0 rfl) ?_
    refine gf_PG_10 X hW  d_PG_move_9 ?_
    refine lv_iload_n hx hb d_PG_move_12 rfl (lv_at hl 2 rfl) ?_
    refine gc_iV (As := [.int w2]) (b := ad 1) (rest := []) X cw_PG_65 (C_Web_isPage l (w := w2)) hW hS (gW_recv (ci := 1) (fs := gf1 ad) hK hW (by omega) (fun σ τ => ge_1 rfl σ τ) (r := (R_Web, F_Web, 4)) rfl) ⟨Nat.le_trans (Nat.le_of_ble_eq_true rfl) hR.1, Nat.le_trans (Nat.le_of_ble_eq_true rfl) hR.2⟩ rfl hl.1 rfl (Nat.le_of_ble_eq_true rfl) d_PG_move_13 ⟨Nat.zero_le _, Nat.zero_le _⟩ (fun r t H locs hp hW hS => ?_)
    obtain ⟨rfl, rfl⟩ := hp
    have hW : gW g A ad np (a, x, o) v H := hW
    refine lv_if_ne (tgt := 21) hx hb d_PG_move_16 (by decide) (fun h16 => ?_) (fun h16 => ?_)
    · -- 16 t
      have h16 : (sIs a w2) = true := bI_n0 h16
      refine lv_aload_n hx hb d_PG_move_21 rfl (lv_at hl 0 rfl) ?_
      refine gf_PG_10 X hW  d_PG_move_22 ?_
      refine gf_PG_50 X hW  d_PG_move_25 ?_
      refine lv_iload_n hx hb d_PG_move_28 rfl (lv_at hl 1 rfl) ?_
      refine gy_aP (i := P) hx hb hK hW (by omega) hnp rfl d_PG_move_29 ?_
      refine gs_PG_71 X hS d_PG_move_30 ?_
      refine pf_PG_77 (z := 1) X hW hS (by unfold gp; omega) (gk_p0 P) (gv_1_0 (by omega)) (gi_1_0 _) (w := 1) rfl rfl rfl d_PG_move_33 (fun H locs hW hS => ?_)
      have hW : gW g A ad np (a, gu x 0 P 1, o) v H := hW
      refine lv_aload_n hx hb d_PG_move_36 rfl (lv_at hl 0 rfl) ?_
      refine gf_PG_10 X hW  d_PG_move_37 ?_
      refine gf_PG_50 X hW  d_PG_move_40 ?_
      refine lv_iload_n hx hb d_PG_move_43 rfl (lv_at hl 1 rfl) ?_
      refine gy_aP (i := P) hx hb hK hW (by omega) hnp rfl d_PG_move_44 ?_
      refine lv_iload_n hx hb d_PG_move_45 rfl (lv_at hl 2 rfl) ?_
      refine pf_PG_80 (z := w2) X hW hS (by unfold gp; omega) (gk_p0 P) (gv_1_1 (by omega)) (gi_1_1 _) rfl rfl d_PG_move_46 (fun H locs hW hS => ?_)
      have hW : gW g A ad np (a, gu (gu x 0 P 1) 1 P w2, o) v H := hW
      refine lv_iconst (v := 1) hx hb d_PG_move_49 (by decide) ?_
      have hW := gW_r3 P w2 hW
      refine hret 1 ((gu a 3 P w2, gu (gu x 0 P 1) 1 P w2, o), v) _ _ _ _ ?_ hW hS d_PG_move_50
      have e9 : pM a (nI P) w2 = true := by unfold pM; rw [decide_eq_true hon, hpg, h16]; rfl
      exact ⟨by rw [e9]; rfl, fun _ => by unfold sM; rw [if_pos e9, nI_clamp (by omega)], fun q => absurd (e9.symm.trans q) (by decide)⟩
    · -- 16 f
      have h16 : (sIs a w2) = false := bI_0 h16
      refine lv_iconst (v := 0) hx hb d_PG_move_19 (by decide) ?_
      refine hret 0 ((a, x, o), v) _ _ _ _ ?_ hW hS d_PG_move_20
      first
        | (have e9 : pM a w1 w2 = false := by unfold pM; rw [h5]; rfl
           exact ⟨by rw [e9]; rfl, fun q => absurd (e9.symm.trans q) (by decide), fun _ => by unfold sM; rw [if_neg (by rw [e9]; decide)]⟩)
        | (have e9 : pM a (nI P) w2 = false := by unfold pM; rw [h16, Bool.and_false]
           exact ⟨by rw [e9]; rfl, fun q => absurd (e9.symm.trans q) (by decide), fun _ => by unfold sM; rw [if_neg (by rw [e9]; decide)]⟩)
theorem C_PG_move (l : Launch) {g : gG} {A : Nat → Prop} {ad : Nat → Nat} {np : Nat} {a x : gA} {o : gL} {v : gS} {w1 w2 : Int32} (hw : WFw np a) : CtI l y_PG_move b_PG_move 3 .boolean 2 [.ref (ad 0), .int w1, .int w2] g A ad np (a, x, o) v (fun r t => r = bI (pM a w1 w2) ∧ (pM a w1 w2 = true → t = ((sM a w1 w2, gu (gu x 0 w1.toNatClampNeg 1) 1 w1.toNatClampNeg w2, o), v)) ∧ (pM a w1 w2 = false → t = ((sM a w1 w2, x, o), v))) := mkI (by decide) rfl (Nat.le_of_ble_eq_true rfl) (fun r t h => h.1 ▸ bI_nar _) (B_PG_move l hw)

set_option maxHeartbeats 400000 in
set_option maxRecDepth 20000 in
theorem B_PG_drop (l : Launch) {g : gG} {A : Nat → Prop} {ad : Nat → Nat} {np : Nat} {a x : gA} {o : gL} {v : gS} {w1 : Int32} (hw : WFw np a) : BdI l b_PG_drop 2 R_PG 2 [.ref (ad 0), .int w1] g A ad np (a, x, o) v (fun r t => r = bI (pD a w1) ∧ (pD a w1 = true → t = ((sD a w1, gu x 0 w1.toNatClampNeg 2, o), v)) ∧ (pD a w1 = false → t = ((sD a w1, x, o), v))) := by
  intro p e R s m args below meth c Q ls X hW hS hR hl hret
  have hx := X.1.1
  have hb := X.1.2.1
  have hml := X.1.2.2.1
  have hown := X.1.2.2.2.1
  have hts := X.1.2.2.2.2
  have hK := X.2.1
  have hl : lv_has ls 2 [(0, .ref (ad 0)), (1, .int w1)] := hl
  have hnp := hw.1
  have hpc := hw.2.1
  refine lv_aload_n hx hb d_PG_drop_0 rfl (lv_at hl 0 rfl) ?_
  refine lv_iload_n hx hb d_PG_drop_1 rfl (lv_at hl 1 rfl) ?_
  refine gc_iV (As := [.int w1]) (b := ad 0) (rest := []) X cw_PG_42 (C_PG_canChange l (a := a) (x := x) (o := o) (v := v) (w := w1)) hW hS (gW_recv (ci := 0) (fs := gf0 ad) hK hW (by omega) (fun σ τ => ge_0 rfl σ τ) (r := (R_PG, F_PG, 4)) rfl) ⟨Nat.le_trans (Nat.le_of_ble_eq_true rfl) hR.1, Nat.le_trans (Nat.le_of_ble_eq_true rfl) hR.2⟩ rfl hl.1 rfl (Nat.le_of_ble_eq_true rfl) d_PG_drop_2 ⟨Nat.zero_le _, Nat.zero_le _⟩ (fun r t H locs hp hW hS => ?_)
  obtain ⟨rfl, rfl⟩ := hp
  have hW : gW g A ad np (a, x, o) v H := hW
  refine lv_if_ne (tgt := 10) hx hb d_PG_drop_5 (by decide) (fun h5 => ?_) (fun h5 => ?_)
  · -- 5 t
    have h5 : (decide (a 0 13 = 0) && sIs a w1) = true := bI_n0 h5
    have h5a := h5
    rw [Bool.and_eq_true, decide_eq_true_eq] at h5
    obtain ⟨hon, hpg⟩ := h5
    obtain ⟨P, hP, rfl⟩ := sIs_of hpc hnp hpg
    refine lv_aload_n hx hb d_PG_drop_10 rfl (lv_at hl 0 rfl) ?_
    refine gf_PG_10 X hW  d_PG_drop_11 ?_
    refine gf_PG_50 X hW  d_PG_drop_14 ?_
    refine lv_iload_n hx hb d_PG_drop_17 rfl (lv_at hl 1 rfl) ?_
    refine gy_aP (i := P) hx hb hK hW (by omega) hnp rfl d_PG_drop_18 ?_
    refine gs_PG_84 X hS d_PG_drop_19 ?_
    refine pf_PG_77 (z := 2) X hW hS (by unfold gp; omega) (gk_p0 P) (gv_1_0 (by omega)) (gi_1_0 _) (w := 2) rfl rfl rfl d_PG_drop_22 (fun H locs hW hS => ?_)
    have hW : gW g A ad np (a, gu x 0 P 2, o) v H := hW
    refine lv_iconst (v := 1) hx hb d_PG_drop_25 (by decide) ?_
    have hW := gW_r3 P (-3) hW
    refine hret 1 ((gu a 3 P (-3), gu x 0 P 2, o), v) _ _ _ _ ?_ hW hS d_PG_drop_26
    have e9 : pD a (nI P) = true := h5a
    exact ⟨by rw [e9]; rfl, fun _ => by unfold sD; rw [if_pos e9, nI_clamp (by omega)], fun q => absurd (e9.symm.trans q) (by decide)⟩
  · -- 5 f
    have h5 : (decide (a 0 13 = 0) && sIs a w1) = false := bI_0 h5
    refine lv_iconst (v := 0) hx hb d_PG_drop_8 (by decide) ?_
    refine hret 0 ((a, x, o), v) _ _ _ _ ?_ hW hS d_PG_drop_9
    have e9 : pD a w1 = false := h5
    exact ⟨by rw [e9]; rfl, fun q => absurd (e9.symm.trans q) (by decide), fun _ => by unfold sD; rw [if_neg (by rw [e9]; decide)]⟩
theorem C_PG_drop (l : Launch) {g : gG} {A : Nat → Prop} {ad : Nat → Nat} {np : Nat} {a x : gA} {o : gL} {v : gS} {w1 : Int32} (hw : WFw np a) : CtI l y_PG_drop b_PG_drop 2 .boolean 2 [.ref (ad 0), .int w1] g A ad np (a, x, o) v (fun r t => r = bI (pD a w1) ∧ (pD a w1 = true → t = ((sD a w1, gu x 0 w1.toNatClampNeg 2, o), v)) ∧ (pD a w1 = false → t = ((sD a w1, x, o), v))) := mkI (by decide) rfl (Nat.le_of_ble_eq_true rfl) (fun r t h => h.1 ▸ bI_nar _) (B_PG_drop l hw)

set_option maxHeartbeats 400000 in
set_option maxRecDepth 20000 in
theorem B_PG_rule (l : Launch) {g : gG} {A : Nat → Prop} {ad : Nat → Nat} {np : Nat} {a x : gA} {o : gL} {v : gS} {w1 w2 : Int32} {b : Bool} (hw : WFw np a) : BdI l b_PG_rule 4 R_PG 2 [.ref (ad 0), .int w1, .int w2, .int (bI b)] g A ad np (a, x, o) v (fun r t => t = ((sR a w1 w2 (bI b), x, o), v) ∧ r = bI (pR a w1 w2)) := by
  intro p e R s m args below meth c Q ls X hW hS hR hl hret
  have hx := X.1.1
  have hb := X.1.2.1
  have hml := X.1.2.2.1
  have hown := X.1.2.2.2.1
  have hts := X.1.2.2.2.2
  have hK := X.2.1
  have hl : lv_has ls 4 [(0, .ref (ad 0)), (1, .int w1), (2, .int w2), (3, .int (bI b))] := hl
  have hnp := hw.1
  have hpc := hw.2.1
  refine lv_aload_n hx hb d_PG_rule_0 rfl (lv_at hl 0 rfl) ?_
  refine gf_PG_34 (z := a 0 13) X hW  (gv_0_0_13 _) rfl rfl d_PG_rule_1 ?_
  refine lv_if_ne (tgt := 45) hx hb d_PG_rule_4 (by decide) (fun h4 => ?_) (fun h4 => ?_)
  · -- 4 t
    refine lv_iconst (v := 0) hx hb d_PG_rule_45 (by decide) ?_
    refine hret 0 ((a, x, o), v) _ _ _ _ ?_ hW hS d_PG_rule_46
    first
      | (have e9 : pR a w1 w2 = false := by unfold pR; rw [decide_eq_false h4]; rfl
         exact ⟨by unfold sR; rw [if_neg (by rw [e9]; decide)], by rw [e9]; rfl⟩)
      | (have e9 : pR a w1 w2 = false := by unfold pR; rw [h11]; simp
         exact ⟨by unfold sR; rw [if_neg (by rw [e9]; decide)], by rw [e9]; rfl⟩)
      | (have e9 : pR a (nI hh) w2 = false := by unfold pR; rw [h21]; simp
         exact ⟨by unfold sR; rw [if_neg (by rw [e9]; decide)], by rw [e9]; rfl⟩)
      | (have e9 : pR a (nI hh) w2 = false := by unfold pR; rw [ewc, decide_eq_false (Nat.not_lt.mpr hc8)]; simp
         exact ⟨by unfold sR; rw [if_neg (by rw [e9]; decide)], by rw [e9]; rfl⟩)
  · -- 4 f
    refine lv_iload_n hx hb d_PG_rule_7 rfl (lv_at hl 1 rfl) ?_
    refine gc_iS (As := [.int w1]) (rest := []) X cw_PG_87 (C_PG_isHost l (w0 := w1)) hW hS ⟨Nat.le_trans (Nat.le_of_ble_eq_true rfl) hR.1, Nat.le_trans (Nat.le_of_ble_eq_true rfl) hR.2⟩ rfl hl.1 rfl (Nat.le_of_ble_eq_true rfl) d_PG_rule_8 ⟨Nat.zero_le _, Nat.zero_le _⟩ (fun r t H locs hp hW hS => ?_)
    obtain ⟨rfl, rfl⟩ := hp
    have hW : gW g A ad np (a, x, o) v H := hW
    refine lv_if_eq (tgt := 45) hx hb d_PG_rule_11 (by decide) (fun h11 => ?_) (fun h11 => ?_)
    · -- 11 t
      have h11 : (sIn w1 0 5) = false := bI_0 h11
      refine lv_iconst (v := 0) hx hb d_PG_rule_45 (by decide) ?_
      refine hret 0 ((a, x, o), v) _ _ _ _ ?_ hW hS d_PG_rule_46
      first
        | (have e9 : pR a w1 w2 = false := by unfold pR; rw [decide_eq_false h4]; rfl
           exact ⟨by unfold sR; rw [if_neg (by rw [e9]; decide)], by rw [e9]; rfl⟩)
        | (have e9 : pR a w1 w2 = false := by unfold pR; rw [h11]; simp
           exact ⟨by unfold sR; rw [if_neg (by rw [e9]; decide)], by rw [e9]; rfl⟩)
        | (have e9 : pR a (nI hh) w2 = false := by unfold pR; rw [h21]; simp
           exact ⟨by unfold sR; rw [if_neg (by rw [e9]; decide)], by rw [e9]; rfl⟩)
        | (have e9 : pR a (nI hh) w2 = false := by unfold pR; rw [ewc, decide_eq_false (Nat.not_lt.mpr hc8)]; simp
           exact ⟨by unfold sR; rw [if_neg (by rw [e9]; decide)], by rw [e9]; rfl⟩)
    · -- 11 f
      have h11 : (sIn w1 0 5) = true := bI_n0 h11
      obtain ⟨hh, -, hh5, rfl⟩ := sIn_of (lo := 0) (hi := 5) (by decide) (by decide) h11
      obtain ⟨wc, hwc8, hwc, -⟩ := hw.2.2.2.1 hh (by omega)
      have ewc : (a 10 (nI hh).toNatClampNeg).toNatClampNeg = wc := by rw [nI_clamp (by omega), hwc, nI_clamp (by omega)]
      refine lv_iload_n hx hb d_PG_rule_14 rfl (lv_at hl 2 rfl) ?_
      refine lv_iconst (v := 0) hx hb d_PG_rule_15 (by decide) ?_
      refine lv_ldc (v := 999999) hx hb hown (hts _ w_PG_const_90) d_PG_rule_16 ?_
      refine gc_iS (As := [.int w2, .int 0, .int 999999]) (rest := []) X cw_PG_46 (C_PG_isWithin l (w0 := w2) (w1 := 0) (w2 := 999999)) hW hS ⟨Nat.le_trans (Nat.le_of_ble_eq_true rfl) hR.1, Nat.le_trans (Nat.le_of_ble_eq_true rfl) hR.2⟩ rfl hl.1 rfl (Nat.le_of_ble_eq_true rfl) d_PG_rule_18 ⟨Nat.zero_le _, Nat.zero_le _⟩ (fun r t H locs hp hW hS => ?_)
      obtain ⟨rfl, rfl⟩ := hp
      have hW : gW g A ad np (a, x, o) v H := hW
      refine lv_if_eq (tgt := 45) hx hb d_PG_rule_21 (by decide) (fun h21 => ?_) (fun h21 => ?_)
      · -- 21 t
        have h21 : (sIn w2 0 999999) = false := bI_0 h21
        refine lv_iconst (v := 0) hx hb d_PG_rule_45 (by decide) ?_
        refine hret 0 ((a, x, o), v) _ _ _ _ ?_ hW hS d_PG_rule_46
        first
          | (have e9 : pR a w1 w2 = false := by unfold pR; rw [decide_eq_false h4]; rfl
             exact ⟨by unfold sR; rw [if_neg (by rw [e9]; decide)], by rw [e9]; rfl⟩)
          | (have e9 : pR a w1 w2 = false := by unfold pR; rw [h11]; simp
             exact ⟨by unfold sR; rw [if_neg (by rw [e9]; decide)], by rw [e9]; rfl⟩)
          | (have e9 : pR a (nI hh) w2 = false := by unfold pR; rw [h21]; simp
             exact ⟨by unfold sR; rw [if_neg (by rw [e9]; decide)], by rw [e9]; rfl⟩)
          | (have e9 : pR a (nI hh) w2 = false := by unfold pR; rw [ewc, decide_eq_false (Nat.not_lt.mpr hc8)]; simp
             exact ⟨by unfold sR; rw [if_neg (by rw [e9]; decide)], by rw [e9]; rfl⟩)
      · -- 21 f
        have h21 : (sIn w2 0 999999) = true := bI_n0 h21
        refine lv_aload_n hx hb d_PG_rule_24 rfl (lv_at hl 0 rfl) ?_
        refine gf_PG_10 X hW  d_PG_rule_25 ?_
        refine gf_PG_91 X hW  d_PG_rule_28 ?_
        refine lv_iload_n hx hb d_PG_rule_31 rfl (lv_at hl 1 rfl) ?_
        refine gy_aH (i := hh) hx hb hK hW (by omega) rfl d_PG_rule_32 ?_
        refine lv_iload_n hx hb d_PG_rule_33 rfl (lv_at hl 2 rfl) ?_
        refine lv_iload_n hx hb d_PG_rule_34 rfl (lv_at hl 3 rfl) ?_
        refine gc_iV (As := [.int w2, .int (bI b)]) (b := ad (4 + 3 * hh)) (rest := []) X cw_PG_95 (C_Host_addRule l (a := a) (x := x) (o := o) (v := v) (hh := hh) (n := wc) (pr := w2) (b := b) (by omega) hwc hwc8) hW hS (gW_recv (ci := 2) (fs := gf2 ad (4 + 3 * hh)) hK hW (by omega) (fun σ τ => ge_2 (gk_h0 (by omega)) σ τ) (r := (R_Host, F_Host, 3)) rfl) ⟨Nat.le_trans (Nat.le_of_ble_eq_true rfl) hR.1, Nat.le_trans (Nat.le_of_ble_eq_true rfl) hR.2⟩ rfl hl.1 rfl (Nat.le_of_ble_eq_true rfl) d_PG_rule_35 ⟨Nat.zero_le _, Nat.zero_le _⟩ (fun r t H locs hp hW hS => ?_)
        rcases Nat.lt_or_ge wc 4 with hc8 | hc8
        · -- 1
          obtain ⟨rfl, rfl⟩ := hp.1 hc8
          have hW : gW g A ad np (gu (gu (gu a 8 (4 * hh + wc) w2) 9 (4 * hh + wc) (bI b)) 10 hh (nI (wc + 1)), x, o) v H := hW
          refine lv_if_eq (tgt := 45) hx hb d_PG_rule_38 (by decide) (fun h38 => ?_) (fun h38 => ?_)
          · exact absurd h38 (by decide)
          · -- 38 f
            refine lv_iconst (v := 1) hx hb d_PG_rule_41 (by decide) ?_
            refine lv_goto (tgt := 46) hx hb d_PG_rule_42 (by decide) ?_
            refine hret 1 ((gu (gu (gu a 8 (4 * hh + wc) w2) 9 (4 * hh + wc) (bI b)) 10 hh (nI (wc + 1)), x, o), v) _ _ _ _ ?_ hW hS d_PG_rule_46
            have e9 : pR a (nI hh) w2 = true := by unfold pR; rw [decide_eq_true h4, h11, h21, ewc, decide_eq_true hc8]; rfl
            exact ⟨by unfold sR; rw [if_pos e9, ewc, nI_clamp (by omega)], by rw [e9]; rfl⟩
        · -- 0
          obtain ⟨rfl, rfl⟩ := hp.2 hc8
          have hW : gW g A ad np (a, x, o) v H := hW
          refine lv_if_eq (tgt := 45) hx hb d_PG_rule_38 (by decide) (fun h38 => ?_) (fun h38 => ?_)
          · -- 38 t
            refine lv_iconst (v := 0) hx hb d_PG_rule_45 (by decide) ?_
            refine hret 0 ((a, x, o), v) _ _ _ _ ?_ hW hS d_PG_rule_46
            first
              | (have e9 : pR a w1 w2 = false := by unfold pR; rw [decide_eq_false h4]; rfl
                 exact ⟨by unfold sR; rw [if_neg (by rw [e9]; decide)], by rw [e9]; rfl⟩)
              | (have e9 : pR a w1 w2 = false := by unfold pR; rw [h11]; simp
                 exact ⟨by unfold sR; rw [if_neg (by rw [e9]; decide)], by rw [e9]; rfl⟩)
              | (have e9 : pR a (nI hh) w2 = false := by unfold pR; rw [h21]; simp
                 exact ⟨by unfold sR; rw [if_neg (by rw [e9]; decide)], by rw [e9]; rfl⟩)
              | (have e9 : pR a (nI hh) w2 = false := by unfold pR; rw [ewc, decide_eq_false (Nat.not_lt.mpr hc8)]; simp
                 exact ⟨by unfold sR; rw [if_neg (by rw [e9]; decide)], by rw [e9]; rfl⟩)
          · exact absurd h38 (by decide)
theorem C_PG_rule (l : Launch) {g : gG} {A : Nat → Prop} {ad : Nat → Nat} {np : Nat} {a x : gA} {o : gL} {v : gS} {w1 w2 : Int32} {b : Bool} (hw : WFw np a) : CtI l y_PG_rule b_PG_rule 4 .boolean 2 [.ref (ad 0), .int w1, .int w2, .int (bI b)] g A ad np (a, x, o) v (fun r t => t = ((sR a w1 w2 (bI b), x, o), v) ∧ r = bI (pR a w1 w2)) := mkI (by decide) rfl (Nat.le_of_ble_eq_true rfl) (fun r t h => h.2 ▸ bI_nar _) (B_PG_rule l hw)

set_option maxHeartbeats 400000 in
set_option maxRecDepth 20000 in
theorem B_PG_first (l : Launch) {g : gG} {A : Nat → Prop} {ad : Nat → Nat} {np : Nat} {a x : gA} {o : gL} {v : gS} {w1 : Int32} (hw : WFw np a) : BdI l b_PG_first 2 R_PG 2 [.ref (ad 0), .int w1] g A ad np (a, x, o) v (fun r t => t = ((sF a w1, x, o), v) ∧ r = bI (pF a w1)) := by
  intro p e R s m args below meth c Q ls X hW hS hR hl hret
  have hx := X.1.1
  have hb := X.1.2.1
  have hml := X.1.2.2.1
  have hown := X.1.2.2.2.1
  have hts := X.1.2.2.2.2
  have hK := X.2.1
  have hl : lv_has ls 2 [(0, .ref (ad 0)), (1, .int w1)] := hl
  have hnp := hw.1
  have hpc := hw.2.1
  obtain ⟨kf, hkf6, e12, hkf⟩ := hw.2.2.2.2.2.2.2.1
  have ecn : cn a 12 = kf := cn_of e12 (by omega)
  refine lv_aload_n hx hb d_PG_first_0 rfl (lv_at hl 0 rfl) ?_
  refine lv_iload_n hx hb d_PG_first_1 rfl (lv_at hl 1 rfl) ?_
  refine gc_iV (As := [.int w1]) (b := ad 0) (rest := []) X cw_PG_42 (C_PG_canChange l (a := a) (x := x) (o := o) (v := v) (w := w1)) hW hS (gW_recv (ci := 0) (fs := gf0 ad) hK hW (by omega) (fun σ τ => ge_0 rfl σ τ) (r := (R_PG, F_PG, 4)) rfl) ⟨Nat.le_trans (Nat.le_of_ble_eq_true rfl) hR.1, Nat.le_trans (Nat.le_of_ble_eq_true rfl) hR.2⟩ rfl hl.1 rfl (Nat.le_of_ble_eq_true rfl) d_PG_first_2 ⟨Nat.zero_le _, Nat.zero_le _⟩ (fun r t H locs hp hW hS => ?_)
  obtain ⟨rfl, rfl⟩ := hp
  have hW : gW g A ad np (a, x, o) v H := hW
  refine lv_if_eq (tgt := 26) hx hb d_PG_first_5 (by decide) (fun h5 => ?_) (fun h5 => ?_)
  · -- 5 t
    have h5 : (decide (a 0 13 = 0) && sIs a w1) = false := bI_0 h5
    refine lv_iconst (v := 0) hx hb d_PG_first_26 (by decide) ?_
    refine hret 0 ((a, x, o), v) _ _ _ _ ?_ hW hS d_PG_first_27
    first
      | (have e9 : pF a w1 = false := by unfold pF; rw [h5]; rfl
         exact ⟨by unfold sF; rw [if_neg (by rw [e9]; decide)], by rw [e9]; rfl⟩)
      | (have e9 : pF a w1 = false := by unfold pF; rw [ecn, decide_eq_false (Nat.not_lt.mpr hc8)]; simp
         exact ⟨by unfold sF; rw [if_neg (by rw [e9]; decide)], by rw [e9]; rfl⟩)
  · -- 5 f
    have h5 : (decide (a 0 13 = 0) && sIs a w1) = true := bI_n0 h5
    refine lv_aload_n hx hb d_PG_first_8 rfl (lv_at hl 0 rfl) ?_
    refine gf_PG_10 X hW  d_PG_first_9 ?_
    refine gf_PG_101 X hW  d_PG_first_12 ?_
    refine lv_iload_n hx hb d_PG_first_15 rfl (lv_at hl 1 rfl) ?_
    refine gc_iV (As := [.int w1]) (b := ad 22) (rest := []) X cw_PG_60 (C_Row_add l (u := (a, x, o)) (v := v) (x := w1) (n := kf) (gRow_22 np) e12 hkf6) hW hS (gW_recv (ci := 3) (fs := gf3 ad 22) hK hW (by omega) (fun σ τ => ge_3 rfl σ τ) (r := (R_Row, F_Row, 2)) rfl) ⟨Nat.le_trans (Nat.le_of_ble_eq_true rfl) hR.1, Nat.le_trans (Nat.le_of_ble_eq_true rfl) hR.2⟩ rfl hl.1 rfl (Nat.le_of_ble_eq_true rfl) d_PG_first_16 ⟨Nat.zero_le _, Nat.zero_le _⟩ (fun r t H locs hp hW hS => ?_)
    rcases Nat.lt_or_ge kf 6 with hc8 | hc8
    · -- 1
      obtain ⟨rfl, rfl⟩ := hp.1 hc8
      have hW : gW g A ad np (gu (gu a 11 kf w1) 0 12 (nI (kf + 1)), x, o) v H := hW
      refine lv_if_eq (tgt := 26) hx hb d_PG_first_19 (by decide) (fun h19 => ?_) (fun h19 => ?_)
      · exact absurd h19 (by decide)
      · -- 19 f
        refine lv_iconst (v := 1) hx hb d_PG_first_22 (by decide) ?_
        refine lv_goto (tgt := 27) hx hb d_PG_first_23 (by decide) ?_
        refine hret 1 ((gu (gu a 11 kf w1) 0 12 (nI (kf + 1)), x, o), v) _ _ _ _ ?_ hW hS d_PG_first_27
        have e9 : pF a w1 = true := by unfold pF; rw [h5, ecn, decide_eq_true hc8]; rfl
        exact ⟨by unfold sF; rw [if_pos e9, ecn], by rw [e9]; rfl⟩
    · -- 0
      obtain ⟨rfl, rfl⟩ := hp.2 hc8
      have hW : gW g A ad np (a, x, o) v H := hW
      refine lv_if_eq (tgt := 26) hx hb d_PG_first_19 (by decide) (fun h19 => ?_) (fun h19 => ?_)
      · -- 19 t
        refine lv_iconst (v := 0) hx hb d_PG_first_26 (by decide) ?_
        refine hret 0 ((a, x, o), v) _ _ _ _ ?_ hW hS d_PG_first_27
        first
          | (have e9 : pF a w1 = false := by unfold pF; rw [h5]; rfl
             exact ⟨by unfold sF; rw [if_neg (by rw [e9]; decide)], by rw [e9]; rfl⟩)
          | (have e9 : pF a w1 = false := by unfold pF; rw [ecn, decide_eq_false (Nat.not_lt.mpr hc8)]; simp
             exact ⟨by unfold sF; rw [if_neg (by rw [e9]; decide)], by rw [e9]; rfl⟩)
      · exact absurd h19 (by decide)
theorem C_PG_first (l : Launch) {g : gG} {A : Nat → Prop} {ad : Nat → Nat} {np : Nat} {a x : gA} {o : gL} {v : gS} {w1 : Int32} (hw : WFw np a) : CtI l y_PG_first b_PG_first 2 .boolean 2 [.ref (ad 0), .int w1] g A ad np (a, x, o) v (fun r t => t = ((sF a w1, x, o), v) ∧ r = bI (pF a w1)) := mkI (by decide) rfl (Nat.le_of_ble_eq_true rfl) (fun r t h => h.2 ▸ bI_nar _) (B_PG_first l hw)

set_option maxHeartbeats 400000 in
set_option maxRecDepth 20000 in
theorem B_PG_begin (l : Launch) {g : gG} {A : Nat → Prop} {ad : Nat → Nat} {np : Nat} {a x : gA} {o : gL} {v : gS} {w1 w2 w3 w4 : Int32} (hw : WFw np a) (hwx : WX np a x) (hg : WFg np a) : BdI l b_PG_begin 5 R_PG 3 [.ref (ad 0), .int w1, .int w2, .int w3, .int w4] g A ad np (a, x, o) v (fun r t => r = bI (pB a w1 w2 w3 w4) ∧ ∃ x', t = ((sB a w1 w2 w3 w4, x', o), v) ∧ WX np (sB a w1 w2 w3 w4) x') := by
  intro p e R s m args below meth c Q ls X hW hS hR hl hret
  have hx := X.1.1
  have hb := X.1.2.1
  have hml := X.1.2.2.1
  have hown := X.1.2.2.2.1
  have hts := X.1.2.2.2.2
  have hK := X.2.1
  have hl : lv_has ls 5 [(0, .ref (ad 0)), (1, .int w1), (2, .int w2), (3, .int w3), (4, .int w4)] := hl
  have hnp := hw.1
  have hpc := hw.2.1
  refine lv_aload_n hx hb d_PG_begin_0 rfl (lv_at hl 0 rfl) ?_
  refine gf_PG_34 (z := a 0 13) X hW  (gv_0_0_13 _) rfl rfl d_PG_begin_1 ?_
  refine lv_if_ne (tgt := 60) hx hb d_PG_begin_4 (by decide) (fun h4 => ?_) (fun h4 => ?_)
  · -- 4 t
    refine lv_iconst (v := 0) hx hb d_PG_begin_60 (by decide) ?_
    refine hret 0 ((a, x, o), v) _ _ _ _ ?_ hW hS d_PG_begin_61
    have e9 : pB a w1 w2 w3 w4 = false := by
      unfold pB
      first
        | (rw [decide_eq_false h4]; rfl)
        | (rw [decide_eq_false (p := ¬ a 0 12 = 0) (not_not_intro h17)]; simp; done)
        | (rw [h27]; simp; done)
        | (rw [h36]; simp; done)
        | (rw [h46]; simp; done)
        | (rw [h57]; simp; done)
    have e10 : sB a w1 w2 w3 w4 = a := by unfold sB; rw [if_neg (by rw [e9]; decide)]
    rw [e10]
    exact ⟨by rw [e9]; rfl, x, rfl, hwx⟩
  · -- 4 f
    refine lv_aload_n hx hb d_PG_begin_7 rfl (lv_at hl 0 rfl) ?_
    refine gf_PG_10 X hW  d_PG_begin_8 ?_
    refine gf_PG_101 X hW  d_PG_begin_11 ?_
    refine gf_PG_104 (z := a 0 12) X hW (by omega) rfl (gv_0_0_12 _) rfl rfl d_PG_begin_14 ?_
    refine lv_if_eq (tgt := 60) hx hb d_PG_begin_17 (by decide) (fun h17 => ?_) (fun h17 => ?_)
    · -- 17 t
      refine lv_iconst (v := 0) hx hb d_PG_begin_60 (by decide) ?_
      refine hret 0 ((a, x, o), v) _ _ _ _ ?_ hW hS d_PG_begin_61
      have e9 : pB a w1 w2 w3 w4 = false := by
        unfold pB
        first
          | (rw [decide_eq_false h4]; rfl)
          | (rw [decide_eq_false (p := ¬ a 0 12 = 0) (not_not_intro h17)]; simp; done)
          | (rw [h27]; simp; done)
          | (rw [h36]; simp; done)
          | (rw [h46]; simp; done)
          | (rw [h57]; simp; done)
      have e10 : sB a w1 w2 w3 w4 = a := by unfold sB; rw [if_neg (by rw [e9]; decide)]
      rw [e10]
      exact ⟨by rw [e9]; rfl, x, rfl, hwx⟩
    · -- 17 f
      refine lv_iload_n hx hb d_PG_begin_20 rfl (lv_at hl 1 rfl) ?_
      refine lv_iconst (v := 0) hx hb d_PG_begin_21 (by decide) ?_
      refine lv_bipush (v := 6) hx hb d_PG_begin_22 (by decide) ?_
      refine gc_iS (As := [.int w1, .int 0, .int 6]) (rest := []) X cw_PG_46 (C_PG_isWithin l (w0 := w1) (w1 := 0) (w2 := 6)) hW hS ⟨Nat.le_trans (Nat.le_of_ble_eq_true rfl) hR.1, Nat.le_trans (Nat.le_of_ble_eq_true rfl) hR.2⟩ rfl hl.1 rfl (Nat.le_of_ble_eq_true rfl) d_PG_begin_24 ⟨Nat.zero_le _, Nat.zero_le _⟩ (fun r t H locs hp hW hS => ?_)
      obtain ⟨rfl, rfl⟩ := hp
      have hW : gW g A ad np (a, x, o) v H := hW
      refine lv_if_eq (tgt := 60) hx hb d_PG_begin_27 (by decide) (fun h27 => ?_) (fun h27 => ?_)
      · -- 27 t
        have h27 : (sIn w1 0 6) = false := bI_0 h27
        refine lv_iconst (v := 0) hx hb d_PG_begin_60 (by decide) ?_
        refine hret 0 ((a, x, o), v) _ _ _ _ ?_ hW hS d_PG_begin_61
        have e9 : pB a w1 w2 w3 w4 = false := by
          unfold pB
          first
            | (rw [decide_eq_false h4]; rfl)
            | (rw [decide_eq_false (p := ¬ a 0 12 = 0) (not_not_intro h17)]; simp; done)
            | (rw [h27]; simp; done)
            | (rw [h36]; simp; done)
            | (rw [h46]; simp; done)
            | (rw [h57]; simp; done)
        have e10 : sB a w1 w2 w3 w4 = a := by unfold sB; rw [if_neg (by rw [e9]; decide)]
        rw [e10]
        exact ⟨by rw [e9]; rfl, x, rfl, hwx⟩
      · -- 27 f
        have h27 : (sIn w1 0 6) = true := bI_n0 h27
        refine lv_iload_n hx hb d_PG_begin_30 rfl (lv_at hl 2 rfl) ?_
        refine lv_iconst (v := 0) hx hb d_PG_begin_31 (by decide) ?_
        refine lv_iconst (v := 4) hx hb d_PG_begin_32 (by decide) ?_
        refine gc_iS (As := [.int w2, .int 0, .int 4]) (rest := []) X cw_PG_46 (C_PG_isWithin l (w0 := w2) (w1 := 0) (w2 := 4)) hW hS ⟨Nat.le_trans (Nat.le_of_ble_eq_true rfl) hR.1, Nat.le_trans (Nat.le_of_ble_eq_true rfl) hR.2⟩ rfl hl.1 rfl (Nat.le_of_ble_eq_true rfl) d_PG_begin_33 ⟨Nat.zero_le _, Nat.zero_le _⟩ (fun r t H locs hp hW hS => ?_)
        obtain ⟨rfl, rfl⟩ := hp
        have hW : gW g A ad np (a, x, o) v H := hW
        refine lv_if_eq (tgt := 60) hx hb d_PG_begin_36 (by decide) (fun h36 => ?_) (fun h36 => ?_)
        · -- 36 t
          have h36 : (sIn w2 0 4) = false := bI_0 h36
          refine lv_iconst (v := 0) hx hb d_PG_begin_60 (by decide) ?_
          refine hret 0 ((a, x, o), v) _ _ _ _ ?_ hW hS d_PG_begin_61
          have e9 : pB a w1 w2 w3 w4 = false := by
            unfold pB
            first
              | (rw [decide_eq_false h4]; rfl)
              | (rw [decide_eq_false (p := ¬ a 0 12 = 0) (not_not_intro h17)]; simp; done)
              | (rw [h27]; simp; done)
              | (rw [h36]; simp; done)
              | (rw [h46]; simp; done)
              | (rw [h57]; simp; done)
          have e10 : sB a w1 w2 w3 w4 = a := by unfold sB; rw [if_neg (by rw [e9]; decide)]
          rw [e10]
          exact ⟨by rw [e9]; rfl, x, rfl, hwx⟩
        · -- 36 f
          have h36 : (sIn w2 0 4) = true := bI_n0 h36
          refine lv_iload_n hx hb d_PG_begin_39 rfl (lv_at hl 3 rfl) ?_
          refine lv_iconst (v := 0) hx hb d_PG_begin_40 (by decide) ?_
          refine lv_bipush (v := 9) hx hb d_PG_begin_41 (by decide) ?_
          refine gc_iS (As := [.int w3, .int 0, .int 9]) (rest := []) X cw_PG_46 (C_PG_isWithin l (w0 := w3) (w1 := 0) (w2 := 9)) hW hS ⟨Nat.le_trans (Nat.le_of_ble_eq_true rfl) hR.1, Nat.le_trans (Nat.le_of_ble_eq_true rfl) hR.2⟩ rfl hl.1 rfl (Nat.le_of_ble_eq_true rfl) d_PG_begin_43 ⟨Nat.zero_le _, Nat.zero_le _⟩ (fun r t H locs hp hW hS => ?_)
          obtain ⟨rfl, rfl⟩ := hp
          have hW : gW g A ad np (a, x, o) v H := hW
          refine lv_if_eq (tgt := 60) hx hb d_PG_begin_46 (by decide) (fun h46 => ?_) (fun h46 => ?_)
          · -- 46 t
            have h46 : (sIn w3 0 9) = false := bI_0 h46
            refine lv_iconst (v := 0) hx hb d_PG_begin_60 (by decide) ?_
            refine hret 0 ((a, x, o), v) _ _ _ _ ?_ hW hS d_PG_begin_61
            have e9 : pB a w1 w2 w3 w4 = false := by
              unfold pB
              first
                | (rw [decide_eq_false h4]; rfl)
                | (rw [decide_eq_false (p := ¬ a 0 12 = 0) (not_not_intro h17)]; simp; done)
                | (rw [h27]; simp; done)
                | (rw [h36]; simp; done)
                | (rw [h46]; simp; done)
                | (rw [h57]; simp; done)
            have e10 : sB a w1 w2 w3 w4 = a := by unfold sB; rw [if_neg (by rw [e9]; decide)]
            rw [e10]
            exact ⟨by rw [e9]; rfl, x, rfl, hwx⟩
          · -- 46 f
            have h46 : (sIn w3 0 9) = true := bI_n0 h46
            refine lv_iload hx hb d_PG_begin_49 (lv_at hl 4 rfl) ?_
            refine lv_iconst (v := 1) hx hb d_PG_begin_51 (by decide) ?_
            refine lv_bipush (v := 8) hx hb d_PG_begin_52 (by decide) ?_
            refine gc_iS (As := [.int w4, .int 1, .int 8]) (rest := []) X cw_PG_46 (C_PG_isWithin l (w0 := w4) (w1 := 1) (w2 := 8)) hW hS ⟨Nat.le_trans (Nat.le_of_ble_eq_true rfl) hR.1, Nat.le_trans (Nat.le_of_ble_eq_true rfl) hR.2⟩ rfl hl.1 rfl (Nat.le_of_ble_eq_true rfl) d_PG_begin_54 ⟨Nat.zero_le _, Nat.zero_le _⟩ (fun r t H locs hp hW hS => ?_)
            obtain ⟨rfl, rfl⟩ := hp
            have hW : gW g A ad np (a, x, o) v H := hW
            refine lv_if_ne (tgt := 62) hx hb d_PG_begin_57 (by decide) (fun h57 => ?_) (fun h57 => ?_)
            · -- 57 t
              have h57 : (sIn w4 1 8) = true := bI_n0 h57
              refine lv_aload_n hx hb d_PG_begin_62 rfl (lv_at hl 0 rfl) ?_
              refine gf_PG_21 X hW  d_PG_begin_63 ?_
              refine lv_iload_n hx hb d_PG_begin_66 rfl (lv_at hl 1 rfl) ?_
              refine lv_iload_n hx hb d_PG_begin_67 rfl (lv_at hl 2 rfl) ?_
              refine lv_iload_n hx hb d_PG_begin_68 rfl (lv_at hl 3 rfl) ?_
              refine lv_iload hx hb d_PG_begin_69 (lv_at hl 4 rfl) ?_
              refine gc_vV (As := [.int w1, .int w2, .int w3, .int w4]) (b := ad 24) (rest := []) X cw_PG_107 (C_Gat_startAnew l (a := a) (x := x) (o := o) (v := v) (w1 := w1) (w2 := w2) (w3 := w3) (w4 := w4) hw hwx hg) hW hS (gW_recv (ci := 5) (fs := gf5 ad) hK hW (by omega) (fun σ τ => ge_5 rfl σ τ) (r := (R_Gat, F_Gat, 17)) rfl) ⟨Nat.le_trans (Nat.le_of_ble_eq_true rfl) hR.1, Nat.le_trans (Nat.le_of_ble_eq_true rfl) hR.2⟩ rfl hl.1 rfl (Nat.le_of_ble_eq_true rfl) d_PG_begin_71 ⟨Nat.zero_le _, Nat.zero_le _⟩ (fun t H locs hp hW hS => ?_)
              obtain ⟨x', rfl, hwx2⟩ := hp
              have hW : gW g A ad np (sSt a w1 w2 w3 w4, x', o) v H := hW
              refine lv_aload_n hx hb d_PG_begin_74 rfl (lv_at hl 0 rfl) ?_
              refine lv_iconst (v := 1) hx hb d_PG_begin_75 (by decide) ?_
              refine pf_PG_34 (z := 1) X hW hS  (gv_0_0_13 _) rfl rfl rfl d_PG_begin_76 (fun H locs hW hS => ?_)
              have hW : gW g A ad np (gu (sSt a w1 w2 w3 w4) 0 13 1, x', o) v H := hW
              refine lv_iconst (v := 1) hx hb d_PG_begin_79 (by decide) ?_
              refine hret 1 ((gu (sSt a w1 w2 w3 w4) 0 13 1, x', o), v) _ _ _ _ ?_ hW hS d_PG_begin_80
              have e9 : pB a w1 w2 w3 w4 = true := by unfold pB; rw [decide_eq_true h4, decide_eq_true h17, h27, h36, h46, h57]; rfl
              have e10 : sB a w1 w2 w3 w4 = gu (sSt a w1 w2 w3 w4) 0 13 1 := by unfold sB; rw [if_pos e9]
              rw [e10]
              exact ⟨by rw [e9]; rfl, x', rfl, hwx2⟩
            · -- 57 f
              have h57 : (sIn w4 1 8) = false := bI_0 h57
              refine lv_iconst (v := 0) hx hb d_PG_begin_60 (by decide) ?_
              refine hret 0 ((a, x, o), v) _ _ _ _ ?_ hW hS d_PG_begin_61
              have e9 : pB a w1 w2 w3 w4 = false := by
                unfold pB
                first
                  | (rw [decide_eq_false h4]; rfl)
                  | (rw [decide_eq_false (p := ¬ a 0 12 = 0) (not_not_intro h17)]; simp; done)
                  | (rw [h27]; simp; done)
                  | (rw [h36]; simp; done)
                  | (rw [h46]; simp; done)
                  | (rw [h57]; simp; done)
              have e10 : sB a w1 w2 w3 w4 = a := by unfold sB; rw [if_neg (by rw [e9]; decide)]
              rw [e10]
              exact ⟨by rw [e9]; rfl, x, rfl, hwx⟩
theorem C_PG_begin (l : Launch) {g : gG} {A : Nat → Prop} {ad : Nat → Nat} {np : Nat} {a x : gA} {o : gL} {v : gS} {w1 w2 w3 w4 : Int32} (hw : WFw np a) (hwx : WX np a x) (hg : WFg np a) : CtI l y_PG_begin b_PG_begin 5 .boolean 3 [.ref (ad 0), .int w1, .int w2, .int w3, .int w4] g A ad np (a, x, o) v (fun r t => r = bI (pB a w1 w2 w3 w4) ∧ ∃ x', t = ((sB a w1 w2 w3 w4, x', o), v) ∧ WX np (sB a w1 w2 w3 w4) x') := mkI (by decide) rfl (Nat.le_of_ble_eq_true rfl) (fun r t h => h.1 ▸ bI_nar _) (B_PG_begin l hw hwx hg)

set_option maxHeartbeats 400000 in
set_option maxRecDepth 20000 in
theorem B_PG_stop (l : Launch) {g : gG} {A : Nat → Prop} {ad : Nat → Nat} {np : Nat} {a x : gA} {o : gL} {v : gS}  : BdI l b_PG_stop 1 R_PG 0 [.ref (ad 0)] g A ad np (a, x, o) v (fun r t => t = ((gu a 0 13 0, x, o), v) ∧ r = bI (decide (¬ a 0 13 = 0))) := by
  intro p e R s m args below meth c Q ls X hW hS hR hl hret
  have hx := X.1.1
  have hb := X.1.2.1
  have hml := X.1.2.2.1
  have hown := X.1.2.2.2.1
  have hts := X.1.2.2.2.2
  have hK := X.2.1
  have hl : lv_has ls 1 [(0, .ref (ad 0))] := hl
  refine lv_aload_n hx hb d_PG_stop_0 rfl (lv_at hl 0 rfl) ?_
  refine gf_PG_34 (z := a 0 13) X hW  (gv_0_0_13 _) rfl rfl d_PG_stop_1 ?_
  refine lv_if_ne (tgt := 9) hx hb d_PG_stop_4 (by decide) (fun h4 => ?_) (fun h4 => ?_)
  · -- 4 t
    refine lv_aload_n hx hb d_PG_stop_9 rfl (lv_at hl 0 rfl) ?_
    refine lv_iconst (v := 0) hx hb d_PG_stop_10 (by decide) ?_
    refine pf_PG_34 (z := 0) X hW hS  (gv_0_0_13 _) rfl rfl rfl d_PG_stop_11 (fun H locs hW hS => ?_)
    have hW : gW g A ad np (gu a 0 13 0, x, o) v H := hW
    refine lv_iconst (v := 1) hx hb d_PG_stop_14 (by decide) ?_
    refine hret 1 ((gu a 0 13 0, x, o), v) _ _ _ _ ?_ hW hS d_PG_stop_15
    exact ⟨rfl, by rw [decide_eq_true h4]; rfl⟩
  · -- 4 f
    refine lv_iconst (v := 0) hx hb d_PG_stop_7 (by decide) ?_
    refine hret 0 ((a, x, o), v) _ _ _ _ ?_ hW hS d_PG_stop_8
    exact ⟨by rw [gu_id h4], by rw [decide_eq_false (not_not_intro h4)]; rfl⟩
theorem C_PG_stop (l : Launch) {g : gG} {A : Nat → Prop} {ad : Nat → Nat} {np : Nat} {a x : gA} {o : gL} {v : gS}  : CtI l y_PG_stop b_PG_stop 1 .boolean 0 [.ref (ad 0)] g A ad np (a, x, o) v (fun r t => t = ((gu a 0 13 0, x, o), v) ∧ r = bI (decide (¬ a 0 13 = 0))) := mkI (by decide) rfl (Nat.le_of_ble_eq_true rfl) (fun r t h => h.2 ▸ bI_nar _) (B_PG_stop l )

set_option maxHeartbeats 400000 in
set_option maxRecDepth 20000 in
theorem B_PG_work (l : Launch) {g : gG} {A : Nat → Prop} {ad : Nat → Nat} {np : Nat} {a x : gA} {o : gL} {v : gS} {w1 : Int32} (hw : WFw np a) (hwx : WX np a x) (hg : WFg np a) : BdI l b_PG_work 4 R_PG 5 [.ref (ad 0), .int w1] g A ad np (a, x, o) v (fun r t => r = rWk a w1 ∧ ∃ x', t = ((sWo a w1, x', o), v) ∧ WX np (sWo a w1) x') := by
  intro p e R s m args below meth c Q ls X hW hS hR hl hret
  have hx := X.1.1
  have hb := X.1.2.1
  have hml := X.1.2.2.1
  have hown := X.1.2.2.2.1
  have hts := X.1.2.2.2.2
  have hK := X.2.1
  have hl : lv_has ls 4 [(0, .ref (ad 0)), (1, .int w1)] := hl
  have hnp := hw.1
  have hpc := hw.2.1
  refine lv_aload_n hx hb d_PG_work_0 rfl (lv_at hl 0 rfl) ?_
  refine gf_PG_34 (z := a 0 13) X hW  (gv_0_0_13 _) rfl rfl d_PG_work_1 ?_
  refine lv_if_eq (tgt := 17) hx hb d_PG_work_4 (by decide) (fun h4 => ?_) (fun h4 => ?_)
  · -- 4 t
    refine lv_iconst (v := (-1)) hx hb d_PG_work_17 (by decide) ?_
    refine hret (-1) ((a, x, o), v) _ _ _ _ ?_ hW hS d_PG_work_18
    have e9 : pWk a w1 = false := by
      unfold pWk
      first
        | (rw [decide_eq_false (not_not_intro h4)]; rfl)
        | (rw [h14, Bool.and_false])
    refine ⟨by unfold rWk; rw [if_neg (by rw [e9]; decide)], ?_⟩
    have e10 : sWo a w1 = a := by unfold sWo; rw [if_neg (by rw [e9]; decide)]
    rw [e10]
    exact ⟨x, rfl, hwx⟩
  · -- 4 f
    refine lv_iload_n hx hb d_PG_work_7 rfl (lv_at hl 1 rfl) ?_
    refine lv_iconst (v := 1) hx hb d_PG_work_8 (by decide) ?_
    refine lv_bipush (v := 10) hx hb d_PG_work_9 (by decide) ?_
    refine gc_iS (As := [.int w1, .int 1, .int 10]) (rest := []) X cw_PG_46 (C_PG_isWithin l (w0 := w1) (w1 := 1) (w2 := 10)) hW hS ⟨Nat.le_trans (Nat.le_of_ble_eq_true rfl) hR.1, Nat.le_trans (Nat.le_of_ble_eq_true rfl) hR.2⟩ rfl hl.1 rfl (Nat.le_of_ble_eq_true rfl) d_PG_work_11 ⟨Nat.zero_le _, Nat.zero_le _⟩ (fun r t H locs hp hW hS => ?_)
    obtain ⟨rfl, rfl⟩ := hp
    have hW : gW g A ad np (a, x, o) v H := hW
    refine lv_if_ne (tgt := 19) hx hb d_PG_work_14 (by decide) (fun h14 => ?_) (fun h14 => ?_)
    · -- 14 t
      have h14 : (sIn w1 1 10) = true := bI_n0 h14
      have e9 : pWk a w1 = true := by unfold pWk; rw [decide_eq_true h4, h14]; rfl
      obtain ⟨n, hn1, hn10, rfl⟩ := sIn_of (lo := 1) (hi := 10) (by decide) (by decide) h14
      refine lv_aload_n hx hb d_PG_work_19 rfl (lv_at hl 0 rfl) ?_
      refine gf_PG_21 X hW  d_PG_work_20 ?_
      refine gf_PG_111 (z := a 0 28) X hW  (gv_0_0_28 _) rfl rfl d_PG_work_23 ?_
      refine lv_istore_n hx hb d_PG_work_26 rfl hl (by decide) rfl (fun ls hl => ?_)
      have hl : lv_has ls 4 [(2, .int (a 0 28)), (0, .ref (ad 0)), (1, .int (nI n))] := hl
      refine lv_iconst (v := 0) hx hb d_PG_work_27 (by decide) ?_
      refine lv_istore_n hx hb d_PG_work_28 rfl hl (by decide) rfl (fun ls hl => ?_)
      have hl : lv_has ls 4 [(3, .int 0), (2, .int (a 0 28)), (0, .ref (ad 0)), (1, .int (nI n))] := hl
      have lp29 : ∀ (fuel : Nat) (i : Nat) (x1 : gA) (ls : Array Slot) (H : Heap) (locs : List Loc), (i ≤ n) → (WX np (sWk a i) x1) → n - i < fuel → lv_has ls 4 [(0, .ref (ad 0)), (1, .int (nI n)), (2, .int (a 0 28)), (3, .int (nI i))] → gW g A ad np (sWk a i, x1, o) v H → va_S A s.heap H locs → W p l e R s m args below meth c H locs 0 0 Q (F0 m 29 ls []) := by
        intro fuel
        induction fuel with
        | zero => intro i x1 ls H locs _ _ hfu; exact absurd hfu (Nat.not_lt_zero _)
        | succ fuel ih =>
          intro i x1 ls H locs hi hx1 hfu hl hW hS
          refine lv_iload_n hx hb d_PG_work_29 rfl (lv_at hl 3 rfl) ?_
          refine lv_iload_n hx hb d_PG_work_30 rfl (lv_at hl 1 rfl) ?_
          refine lv_icmp_ge (tgt := 57) hx hb d_PG_work_31 (by decide) (fun h31 => ?_) (fun h31 => ?_)
          · -- 31 t
            have h31 : n ≤ i := (nI_leI (a := n) (b := i) (by omega) (by omega)).mp h31
            refine lv_aload_n hx hb d_PG_work_57 rfl (lv_at hl 0 rfl) ?_
            refine gf_PG_21 X hW  d_PG_work_58 ?_
            refine gf_PG_111 (z := (sWk a i) 0 28) X hW  (gv_0_0_28 _) rfl rfl d_PG_work_61 ?_
            refine lv_iload_n hx hb d_PG_work_64 rfl (lv_at hl 2 rfl) ?_
            refine lv_isub hx hb d_PG_work_65 ?_
            refine hret (((sWk a i) 0 28) - (a 0 28)) ((sWk a i, x1, o), v) _ _ _ _ ?_ hW hS d_PG_work_66
            have e8 : sWk a n = sWk a i := by
              first
                | (rw [show n = i by omega])
                | (have h9 := sWk_stop (a := a) (i := i) (by rw [cn_of e20 (by omega), cn_of e21 (by omega)]; omega) (n - i)
                   rw [show i + (n - i) = n by omega] at h9
                   exact h9)
            have e10 : sWo a (nI n) = sWk a i := by unfold sWo; rw [if_pos e9, nI_clamp (by omega), e8]
            refine ⟨by unfold rWk; rw [if_pos e9, nI_clamp (by omega), e8], ?_⟩
            rw [e10]
            exact ⟨x1, rfl, hx1⟩
          · -- 31 f
            have h31 : i < n := Nat.lt_of_not_le fun q => h31 ((nI_leI (a := n) (b := i) (by omega) (by omega)).mpr q)
            obtain ⟨hwi, hgi⟩ := sWk_wf hw hg i
            have hgi2 := hgi
            obtain ⟨hd, nq, nf, ng, mh, mq, mf, mg, hp0, e20, e21, -, -, -, -, -, -, -, -, -, hdq, -, -, -, -, -, d12, -⟩ := hgi2
            have hnq := dst_le d12 hnp
            refine lv_aload_n hx hb d_PG_work_34 rfl (lv_at hl 0 rfl) ?_
            refine gf_PG_21 X hW  d_PG_work_35 ?_
            refine gc_iV (As := []) (b := ad 24) (rest := []) X cw_PG_114 (C_Gat_entriesLeft l (a := sWk a i) (x := x1) (o := o) (v := v)) hW hS (gW_recv (ci := 5) (fs := gf5 ad) hK hW (by omega) (fun σ τ => ge_5 rfl σ τ) (r := (R_Gat, F_Gat, 17)) rfl) ⟨Nat.le_trans (Nat.le_of_ble_eq_true rfl) hR.1, Nat.le_trans (Nat.le_of_ble_eq_true rfl) hR.2⟩ rfl hl.1 rfl (Nat.le_of_ble_eq_true rfl) d_PG_work_38 ⟨Nat.zero_le _, Nat.zero_le _⟩ (fun r t H locs hp hW hS => ?_)
            obtain ⟨rfl, hr9⟩ := hp
            rw [e20, e21, pk_sub hdq] at hr9
            subst hr9
            have hW : gW g A ad np (sWk a i, x1, o) v H := hW
            refine lv_if_le (tgt := 57) hx hb d_PG_work_41 (by decide) (fun h41 => ?_) (fun h41 => ?_)
            · -- 41 t
              have h41 : (nq - hd) ≤ 0 := (nI_leI (a := (nq - hd)) (b := 0) (by omega) (by omega)).mp h41
              refine lv_aload_n hx hb d_PG_work_57 rfl (lv_at hl 0 rfl) ?_
              refine gf_PG_21 X hW  d_PG_work_58 ?_
              refine gf_PG_111 (z := (sWk a i) 0 28) X hW  (gv_0_0_28 _) rfl rfl d_PG_work_61 ?_
              refine lv_iload_n hx hb d_PG_work_64 rfl (lv_at hl 2 rfl) ?_
              refine lv_isub hx hb d_PG_work_65 ?_
              refine hret (((sWk a i) 0 28) - (a 0 28)) ((sWk a i, x1, o), v) _ _ _ _ ?_ hW hS d_PG_work_66
              have e8 : sWk a n = sWk a i := by
                first
                  | (rw [show n = i by omega])
                  | (have h9 := sWk_stop (a := a) (i := i) (by rw [cn_of e20 (by omega), cn_of e21 (by omega)]; omega) (n - i)
                     rw [show i + (n - i) = n by omega] at h9
                     exact h9)
              have e10 : sWo a (nI n) = sWk a i := by unfold sWo; rw [if_pos e9, nI_clamp (by omega), e8]
              refine ⟨by unfold rWk; rw [if_pos e9, nI_clamp (by omega), e8], ?_⟩
              rw [e10]
              exact ⟨x1, rfl, hx1⟩
            · -- 41 f
              have h41 : 0 < (nq - hd) := Nat.lt_of_not_le fun q => h41 ((nI_leI (a := (nq - hd)) (b := 0) (by omega) (by omega)).mpr q)
              have hlt : cn (sWk a i) 20 < cn (sWk a i) 21 := by rw [cn_of e20 (by omega), cn_of e21 (by omega)]; omega
              refine lv_aload_n hx hb d_PG_work_44 rfl (lv_at hl 0 rfl) ?_
              refine gf_PG_21 X hW  d_PG_work_45 ?_
              refine gc_vV (As := []) (b := ad 24) (rest := []) X cw_PG_118 (C_Gat_handleEntry l (a := sWk a i) (x := x1) (o := o) (v := v) hwi hx1 hgi hlt) hW hS (gW_recv (ci := 5) (fs := gf5 ad) hK hW (by omega) (fun σ τ => ge_5 rfl σ τ) (r := (R_Gat, F_Gat, 17)) rfl) ⟨Nat.le_trans (Nat.le_of_ble_eq_true rfl) hR.1, Nat.le_trans (Nat.le_of_ble_eq_true rfl) hR.2⟩ rfl hl.1 rfl (Nat.le_of_ble_eq_true rfl) d_PG_work_48 ⟨Nat.zero_le _, Nat.zero_le _⟩ (fun t H locs hp hW hS => ?_)
              obtain ⟨x', rfl, hwx2⟩ := hp
              have hW : gW g A ad np (sH (sWk a i), x', o) v H := hW
              refine lv_iinc (v := nI (i + 1)) (k := 3) hx hb d_PG_work_51 hl rfl (nI_inc i) (by decide) rfl (fun ls hl => ?_)
              have hl : lv_has ls 4 [(3, .int (nI (i + 1))), (0, .ref (ad 0)), (1, .int (nI n)), (2, .int (a 0 28))] := hl
              refine lv_goto (tgt := 29) hx hb d_PG_work_54 (by decide) ?_
              have e9 : sWk a (i + 1) = sH (sWk a i) := if_pos hlt
              exact ih (i + 1) x' _ _ _ (by omega) (by rw [e9]; exact hwx2) (by omega) (lv_sub hl [1, 2, 3, 0] rfl) (by rw [e9]; exact hW) hS
      exact lp29 _ 0 x _ _ _ (Nat.zero_le _) hwx (Nat.lt_succ_self _) (lv_sub hl [2, 3, 1, 0] rfl) hW hS
    · -- 14 f
      have h14 : (sIn w1 1 10) = false := bI_0 h14
      refine lv_iconst (v := (-1)) hx hb d_PG_work_17 (by decide) ?_
      refine hret (-1) ((a, x, o), v) _ _ _ _ ?_ hW hS d_PG_work_18
      have e9 : pWk a w1 = false := by
        unfold pWk
        first
          | (rw [decide_eq_false (not_not_intro h4)]; rfl)
          | (rw [h14, Bool.and_false])
      refine ⟨by unfold rWk; rw [if_neg (by rw [e9]; decide)], ?_⟩
      have e10 : sWo a w1 = a := by unfold sWo; rw [if_neg (by rw [e9]; decide)]
      rw [e10]
      exact ⟨x, rfl, hwx⟩
theorem C_PG_work (l : Launch) {g : gG} {A : Nat → Prop} {ad : Nat → Nat} {np : Nat} {a x : gA} {o : gL} {v : gS} {w1 : Int32} (hw : WFw np a) (hwx : WX np a x) (hg : WFg np a) : CtI l y_PG_work b_PG_work 4 .int 5 [.ref (ad 0), .int w1] g A ad np (a, x, o) v (fun r t => r = rWk a w1 ∧ ∃ x', t = ((sWo a w1, x', o), v) ∧ WX np (sWo a w1) x') := mkI (by decide) rfl (Nat.le_of_ble_eq_true rfl) (fun _ _ _ => rfl) (B_PG_work l hw hwx hg)

set_option maxHeartbeats 400000 in
set_option maxRecDepth 20000 in
theorem B_PG_crash (l : Launch) {g : gG} {A : Nat → Prop} {ad : Nat → Nat} {np : Nat} {a x : gA} {o : gL} {v : gS} (hnp : np ≤ 32) (hwx : WX np a x) (hg : WFg np a) : BdI l b_PG_crash 1 R_PG 3 [.ref (ad 0)] g A ad np (a, x, o) v (fun r t => r = rCr a ∧ ∃ x', t = ((sCra a, x', o), v) ∧ WX np (sCra a) x') := by
  intro p e R s m args below meth c Q ls X hW hS hR hl hret
  have hx := X.1.1
  have hb := X.1.2.1
  have hml := X.1.2.2.1
  have hown := X.1.2.2.2.1
  have hts := X.1.2.2.2.2
  have hK := X.2.1
  have hl : lv_has ls 1 [(0, .ref (ad 0))] := hl
  refine lv_aload_n hx hb d_PG_crash_0 rfl (lv_at hl 0 rfl) ?_
  refine gf_PG_34 (z := a 0 13) X hW  (gv_0_0_13 _) rfl rfl d_PG_crash_1 ?_
  refine lv_if_ne (tgt := 9) hx hb d_PG_crash_4 (by decide) (fun h4 => ?_) (fun h4 => ?_)
  · -- 4 t
    refine lv_aload_n hx hb d_PG_crash_9 rfl (lv_at hl 0 rfl) ?_
    refine gf_PG_21 X hW  d_PG_crash_10 ?_
    refine gc_iV (As := []) (b := ad 24) (rest := []) X cw_PG_121 (C_Gat_fallBack l (a := a) (x := x) (o := o) (v := v) hnp hwx hg) hW hS (gW_recv (ci := 5) (fs := gf5 ad) hK hW (by omega) (fun σ τ => ge_5 rfl σ τ) (r := (R_Gat, F_Gat, 17)) rfl) ⟨Nat.le_trans (Nat.le_of_ble_eq_true rfl) hR.1, Nat.le_trans (Nat.le_of_ble_eq_true rfl) hR.2⟩ rfl hl.1 rfl (Nat.le_of_ble_eq_true rfl) d_PG_crash_13 ⟨Nat.zero_le _, Nat.zero_le _⟩ (fun r t H locs hp hW hS => ?_)
    obtain ⟨rfl, x', rfl, hwx2⟩ := hp
    have hW : gW g A ad np (sCr a, x', o) v H := hW
    refine hret (a 0 33) ((sCr a, x', o), v) _ _ _ _ ?_ hW hS d_PG_crash_16
    unfold rCr sCra
    rw [if_neg h4, if_neg h4]
    exact ⟨rfl, x', rfl, hwx2⟩
  · -- 4 f
    refine lv_iconst (v := (-1)) hx hb d_PG_crash_7 (by decide) ?_
    refine hret (-1) ((a, x, o), v) _ _ _ _ ?_ hW hS d_PG_crash_8
    unfold rCr sCra
    rw [if_pos h4, if_pos h4]
    exact ⟨rfl, x, rfl, hwx⟩
theorem C_PG_crash (l : Launch) {g : gG} {A : Nat → Prop} {ad : Nat → Nat} {np : Nat} {a x : gA} {o : gL} {v : gS} (hnp : np ≤ 32) (hwx : WX np a x) (hg : WFg np a) : CtI l y_PG_crash b_PG_crash 1 .int 3 [.ref (ad 0)] g A ad np (a, x, o) v (fun r t => r = rCr a ∧ ∃ x', t = ((sCra a, x', o), v) ∧ WX np (sCra a) x') := mkI (by decide) rfl (Nat.le_of_ble_eq_true rfl) (fun _ _ _ => rfl) (B_PG_crash l hnp hwx hg)

set_option maxHeartbeats 400000 in
set_option maxRecDepth 20000 in
theorem B_PG_allowed (l : Launch) {g : gG} {A : Nat → Prop} {ad : Nat → Nat} {np : Nat} {a x : gA} {o : gL} {v : gS} {w1 : Int32} (hw : WFw np a) : BdI l b_PG_allowed 2 R_PG 3 [.ref (ad 0), .int w1] g A ad np (a, x, o) v (fun r t => t = ((a, x, o), v) ∧ r = bI (sIs a w1 && sAlw a w1.toNatClampNeg)) := by
  intro p e R s m args below meth c Q ls X hW hS hR hl hret
  have hx := X.1.1
  have hb := X.1.2.1
  have hml := X.1.2.2.1
  have hown := X.1.2.2.2.1
  have hts := X.1.2.2.2.2
  have hK := X.2.1
  have hl : lv_has ls 2 [(0, .ref (ad 0)), (1, .int w1)] := hl
  have hnp := hw.1
  have hpc := hw.2.1
  refine lv_aload_n hx hb d_PG_allowed_0 rfl (lv_at hl 0 rfl) ?_
  refine gf_PG_10 X hW  d_PG_allowed_1 ?_
  refine lv_iload_n hx hb d_PG_allowed_4 rfl (lv_at hl 1 rfl) ?_
  refine gc_iV (As := [.int w1]) (b := ad 1) (rest := []) X cw_PG_65 (C_Web_isPage l (w := w1)) hW hS (gW_recv (ci := 1) (fs := gf1 ad) hK hW (by omega) (fun σ τ => ge_1 rfl σ τ) (r := (R_Web, F_Web, 4)) rfl) ⟨Nat.le_trans (Nat.le_of_ble_eq_true rfl) hR.1, Nat.le_trans (Nat.le_of_ble_eq_true rfl) hR.2⟩ rfl hl.1 rfl (Nat.le_of_ble_eq_true rfl) d_PG_allowed_5 ⟨Nat.zero_le _, Nat.zero_le _⟩ (fun r t H locs hp hW hS => ?_)
  obtain ⟨rfl, rfl⟩ := hp
  have hW : gW g A ad np (a, x, o) v H := hW
  refine lv_if_eq (tgt := 26) hx hb d_PG_allowed_8 (by decide) (fun h8 => ?_) (fun h8 => ?_)
  · -- 8 t
    have h8 : (sIs a w1) = false := bI_0 h8
    refine lv_iconst (v := 0) hx hb d_PG_allowed_26 (by decide) ?_
    refine hret 0 ((a, x, o), v) _ _ _ _ ?_ hW hS d_PG_allowed_27
    first | exact ⟨rfl, by rw [nI_clamp (by omega), h19, Bool.and_false]; rfl⟩ | exact ⟨rfl, by rw [h8]; rfl⟩
  · -- 8 f
    have h8 : (sIs a w1) = true := bI_n0 h8
    obtain ⟨P, hP, rfl⟩ := sIs_of hpc hnp h8
    refine lv_aload_n hx hb d_PG_allowed_11 rfl (lv_at hl 0 rfl) ?_
    refine gf_PG_10 X hW  d_PG_allowed_12 ?_
    refine lv_iload_n hx hb d_PG_allowed_15 rfl (lv_at hl 1 rfl) ?_
    refine gc_iV (As := [.int (nI P)]) (b := ad 1) (rest := []) X cw_PG_124 (C_Web_isAllowed l (a := a) (x := x) (o := o) (v := v) hw hP) hW hS (gW_recv (ci := 1) (fs := gf1 ad) hK hW (by omega) (fun σ τ => ge_1 rfl σ τ) (r := (R_Web, F_Web, 4)) rfl) ⟨Nat.le_trans (Nat.le_of_ble_eq_true rfl) hR.1, Nat.le_trans (Nat.le_of_ble_eq_true rfl) hR.2⟩ rfl hl.1 rfl (Nat.le_of_ble_eq_true rfl) d_PG_allowed_16 ⟨Nat.zero_le _, Nat.zero_le _⟩ (fun r t H locs hp hW hS => ?_)
    obtain ⟨rfl, rfl⟩ := hp
    have hW : gW g A ad np (a, x, o) v H := hW
    refine lv_if_eq (tgt := 26) hx hb d_PG_allowed_19 (by decide) (fun h19 => ?_) (fun h19 => ?_)
    · -- 19 t
      have h19 : (sAlw a P) = false := bI_0 h19
      refine lv_iconst (v := 0) hx hb d_PG_allowed_26 (by decide) ?_
      refine hret 0 ((a, x, o), v) _ _ _ _ ?_ hW hS d_PG_allowed_27
      first | exact ⟨rfl, by rw [nI_clamp (by omega), h19, Bool.and_false]; rfl⟩ | exact ⟨rfl, by rw [h8]; rfl⟩
    · -- 19 f
      have h19 : (sAlw a P) = true := bI_n0 h19
      refine lv_iconst (v := 1) hx hb d_PG_allowed_22 (by decide) ?_
      refine lv_goto (tgt := 27) hx hb d_PG_allowed_23 (by decide) ?_
      refine hret 1 ((a, x, o), v) _ _ _ _ ?_ hW hS d_PG_allowed_27
      exact ⟨rfl, by rw [h8, nI_clamp (by omega), h19]; rfl⟩
theorem C_PG_allowed (l : Launch) {g : gG} {A : Nat → Prop} {ad : Nat → Nat} {np : Nat} {a x : gA} {o : gL} {v : gS} {w1 : Int32} (hw : WFw np a) : CtI l y_PG_allowed b_PG_allowed 2 .boolean 3 [.ref (ad 0), .int w1] g A ad np (a, x, o) v (fun r t => t = ((a, x, o), v) ∧ r = bI (sIs a w1 && sAlw a w1.toNatClampNeg)) := mkI (by decide) rfl (Nat.le_of_ble_eq_true rfl) (fun r t h => h.2 ▸ bI_nar _) (B_PG_allowed l hw)

set_option maxHeartbeats 400000 in
set_option maxRecDepth 20000 in
theorem B_PG_found (l : Launch) {g : gG} {A : Nat → Prop} {ad : Nat → Nat} {np : Nat} {a x : gA} {o : gL} {v : gS} {w1 : Int32} (hw : WFw np a) (hwx : WX np a x) (hg : WFg np a) : BdI l b_PG_found 2 R_PG 4 [.ref (ad 0), .int w1] g A ad np (a, x, o) v (fun r t => t = ((a, x, o), v) ∧ r = rFo a w1) := by
  intro p e R s m args below meth c Q ls X hW hS hR hl hret
  have hx := X.1.1
  have hb := X.1.2.1
  have hml := X.1.2.2.1
  have hown := X.1.2.2.2.1
  have hts := X.1.2.2.2.2
  have hK := X.2.1
  have hl : lv_has ls 2 [(0, .ref (ad 0)), (1, .int w1)] := hl
  have hnp := hw.1
  have hpc := hw.2.1
  obtain ⟨hd, nq, nf, ng, mh, mq, mf, mg, hp0, -, -, -, -, -, -, -, -, -, e15, hp4, -⟩ := hg
  refine lv_aload_n hx hb d_PG_found_0 rfl (lv_at hl 0 rfl) ?_
  refine gf_PG_34 (z := a 0 13) X hW  (gv_0_0_13 _) rfl rfl d_PG_found_1 ?_
  refine lv_if_eq (tgt := 18) hx hb d_PG_found_4 (by decide) (fun h4 => ?_) (fun h4 => ?_)
  · -- 4 t
    refine lv_iconst (v := (-1)) hx hb d_PG_found_18 (by decide) ?_
    refine hret (-1) ((a, x, o), v) _ _ _ _ ?_ hW hS d_PG_found_19
    exact ⟨rfl, by unfold rFo; rw [if_pos (by first | exact Or.inl h4 | exact Or.inr h15)]⟩
  · -- 4 f
    refine lv_aload_n hx hb d_PG_found_7 rfl (lv_at hl 0 rfl) ?_
    refine gf_PG_10 X hW  d_PG_found_8 ?_
    refine lv_iload_n hx hb d_PG_found_11 rfl (lv_at hl 1 rfl) ?_
    refine gc_iV (As := [.int w1]) (b := ad 1) (rest := []) X cw_PG_65 (C_Web_isPage l (w := w1)) hW hS (gW_recv (ci := 1) (fs := gf1 ad) hK hW (by omega) (fun σ τ => ge_1 rfl σ τ) (r := (R_Web, F_Web, 4)) rfl) ⟨Nat.le_trans (Nat.le_of_ble_eq_true rfl) hR.1, Nat.le_trans (Nat.le_of_ble_eq_true rfl) hR.2⟩ rfl hl.1 rfl (Nat.le_of_ble_eq_true rfl) d_PG_found_12 ⟨Nat.zero_le _, Nat.zero_le _⟩ (fun r t H locs hp hW hS => ?_)
    obtain ⟨rfl, rfl⟩ := hp
    have hW : gW g A ad np (a, x, o) v H := hW
    refine lv_if_ne (tgt := 20) hx hb d_PG_found_15 (by decide) (fun h15 => ?_) (fun h15 => ?_)
    · -- 15 t
      have h15 : (sIs a w1) = true := bI_n0 h15
      have h15a := h15
      obtain ⟨P, hP, rfl⟩ := sIs_of hpc hnp h15
      refine lv_aload_n hx hb d_PG_found_20 rfl (lv_at hl 0 rfl) ?_
      refine gf_PG_21 X hW  d_PG_found_21 ?_
      refine lv_iload_n hx hb d_PG_found_24 rfl (lv_at hl 1 rfl) ?_
      refine lv_iconst (v := 0) hx hb d_PG_found_25 (by decide) ?_
      refine gc_iV (As := [.int (nI P), .int 0]) (b := ad 24) (rest := []) X cw_PG_127 (C_Gat_chase0 l (a := a) (x := x) (o := o) (v := v) (P := P) hw hwx e15 hp4 hP) hW hS (gW_recv (ci := 5) (fs := gf5 ad) hK hW (by omega) (fun σ τ => ge_5 rfl σ τ) (r := (R_Gat, F_Gat, 17)) rfl) ⟨Nat.le_trans (Nat.le_of_ble_eq_true rfl) hR.1, Nat.le_trans (Nat.le_of_ble_eq_true rfl) hR.2⟩ rfl hl.1 rfl (Nat.le_of_ble_eq_true rfl) d_PG_found_26 ⟨Nat.zero_le _, Nat.zero_le _⟩ (fun r t H locs hp hW hS => ?_)
      obtain ⟨rfl, rfl⟩ := hp
      have hW : gW g A ad np (a, x, o) v H := hW
      refine hret (sC2 a (hp0 + 1) P) ((a, x, o), v) _ _ _ _ ?_ hW hS d_PG_found_29
      exact ⟨rfl, by unfold rFo; rw [if_neg (fun q => q.elim h4 (fun z => by rw [h15a] at z; cases z)), cn_of e15 (by omega), nI_clamp (by omega)]⟩
    · -- 15 f
      have h15 : (sIs a w1) = false := bI_0 h15
      refine lv_iconst (v := (-1)) hx hb d_PG_found_18 (by decide) ?_
      refine hret (-1) ((a, x, o), v) _ _ _ _ ?_ hW hS d_PG_found_19
      exact ⟨rfl, by unfold rFo; rw [if_pos (by first | exact Or.inl h4 | exact Or.inr h15)]⟩
theorem C_PG_found (l : Launch) {g : gG} {A : Nat → Prop} {ad : Nat → Nat} {np : Nat} {a x : gA} {o : gL} {v : gS} {w1 : Int32} (hw : WFw np a) (hwx : WX np a x) (hg : WFg np a) : CtI l y_PG_found b_PG_found 2 .int 4 [.ref (ad 0), .int w1] g A ad np (a, x, o) v (fun r t => t = ((a, x, o), v) ∧ r = rFo a w1) := mkI (by decide) rfl (Nat.le_of_ble_eq_true rfl) (fun _ _ _ => rfl) (B_PG_found l hw hwx hg)

set_option maxHeartbeats 400000 in
set_option maxRecDepth 20000 in
theorem B_PG_clock (l : Launch) {g : gG} {A : Nat → Prop} {ad : Nat → Nat} {np : Nat} {a x : gA} {o : gL} {v : gS}  : BdI l b_PG_clock 1 R_PG 0 [.ref (ad 0)] g A ad np (a, x, o) v (fun r t => t = ((a, x, o), v) ∧ r = if a 0 13 = 0 then 0 else a 0 26) := by
  intro p e R s m args below meth c Q ls X hW hS hR hl hret
  have hx := X.1.1
  have hb := X.1.2.1
  have hml := X.1.2.2.1
  have hown := X.1.2.2.2.1
  have hts := X.1.2.2.2.2
  have hK := X.2.1
  have hl : lv_has ls 1 [(0, .ref (ad 0))] := hl
  refine lv_aload_n hx hb d_PG_clock_0 rfl (lv_at hl 0 rfl) ?_
  refine gf_PG_34 (z := a 0 13) X hW  (gv_0_0_13 _) rfl rfl d_PG_clock_1 ?_
  refine lv_if_eq (tgt := 17) hx hb d_PG_clock_4 (by decide) (fun h4 => ?_) (fun h4 => ?_)
  · -- 4 t
    refine lv_iconst (v := 0) hx hb d_PG_clock_17 (by decide) ?_
    refine hret 0 ((a, x, o), v) _ _ _ _ ?_ hW hS d_PG_clock_18
    first | exact ⟨rfl, by rw [if_pos h4]⟩ | exact ⟨rfl, by rw [if_neg h4]⟩
  · -- 4 f
    refine lv_aload_n hx hb d_PG_clock_7 rfl (lv_at hl 0 rfl) ?_
    refine gf_PG_21 X hW  d_PG_clock_8 ?_
    refine gf_PG_131 (z := a 0 26) X hW  (gv_0_0_26 _) rfl rfl d_PG_clock_11 ?_
    refine lv_goto (tgt := 18) hx hb d_PG_clock_14 (by decide) ?_
    refine hret (a 0 26) ((a, x, o), v) _ _ _ _ ?_ hW hS d_PG_clock_18
    first | exact ⟨rfl, by rw [if_pos h4]⟩ | exact ⟨rfl, by rw [if_neg h4]⟩
theorem C_PG_clock (l : Launch) {g : gG} {A : Nat → Prop} {ad : Nat → Nat} {np : Nat} {a x : gA} {o : gL} {v : gS}  : CtI l y_PG_clock b_PG_clock 1 .int 0 [.ref (ad 0)] g A ad np (a, x, o) v (fun r t => t = ((a, x, o), v) ∧ r = if a 0 13 = 0 then 0 else a 0 26) := mkI (by decide) rfl (Nat.le_of_ble_eq_true rfl) (fun _ _ _ => rfl) (B_PG_clock l )

set_option maxHeartbeats 400000 in
set_option maxRecDepth 20000 in
theorem B_PG_fetches (l : Launch) {g : gG} {A : Nat → Prop} {ad : Nat → Nat} {np : Nat} {a x : gA} {o : gL} {v : gS}  : BdI l b_PG_fetches 1 R_PG 0 [.ref (ad 0)] g A ad np (a, x, o) v (fun r t => t = ((a, x, o), v) ∧ r = if a 0 13 = 0 then 0 else a 0 28) := by
  intro p e R s m args below meth c Q ls X hW hS hR hl hret
  have hx := X.1.1
  have hb := X.1.2.1
  have hml := X.1.2.2.1
  have hown := X.1.2.2.2.1
  have hts := X.1.2.2.2.2
  have hK := X.2.1
  have hl : lv_has ls 1 [(0, .ref (ad 0))] := hl
  refine lv_aload_n hx hb d_PG_fetches_0 rfl (lv_at hl 0 rfl) ?_
  refine gf_PG_34 (z := a 0 13) X hW  (gv_0_0_13 _) rfl rfl d_PG_fetches_1 ?_
  refine lv_if_eq (tgt := 17) hx hb d_PG_fetches_4 (by decide) (fun h4 => ?_) (fun h4 => ?_)
  · -- 4 t
    refine lv_iconst (v := 0) hx hb d_PG_fetches_17 (by decide) ?_
    refine hret 0 ((a, x, o), v) _ _ _ _ ?_ hW hS d_PG_fetches_18
    first | exact ⟨rfl, by rw [if_pos h4]⟩ | exact ⟨rfl, by rw [if_neg h4]⟩
  · -- 4 f
    refine lv_aload_n hx hb d_PG_fetches_7 rfl (lv_at hl 0 rfl) ?_
    refine gf_PG_21 X hW  d_PG_fetches_8 ?_
    refine gf_PG_111 (z := a 0 28) X hW  (gv_0_0_28 _) rfl rfl d_PG_fetches_11 ?_
    refine lv_goto (tgt := 18) hx hb d_PG_fetches_14 (by decide) ?_
    refine hret (a 0 28) ((a, x, o), v) _ _ _ _ ?_ hW hS d_PG_fetches_18
    first | exact ⟨rfl, by rw [if_pos h4]⟩ | exact ⟨rfl, by rw [if_neg h4]⟩
theorem C_PG_fetches (l : Launch) {g : gG} {A : Nat → Prop} {ad : Nat → Nat} {np : Nat} {a x : gA} {o : gL} {v : gS}  : CtI l y_PG_fetches b_PG_fetches 1 .int 0 [.ref (ad 0)] g A ad np (a, x, o) v (fun r t => t = ((a, x, o), v) ∧ r = if a 0 13 = 0 then 0 else a 0 28) := mkI (by decide) rfl (Nat.le_of_ble_eq_true rfl) (fun _ _ _ => rfl) (B_PG_fetches l )

set_option maxHeartbeats 400000 in
set_option maxRecDepth 20000 in
theorem B_PG_waiting (l : Launch) {g : gG} {A : Nat → Prop} {ad : Nat → Nat} {np : Nat} {a x : gA} {o : gL} {v : gS}  : BdI l b_PG_waiting 1 R_PG 1 [.ref (ad 0)] g A ad np (a, x, o) v (fun r t => t = ((a, x, o), v) ∧ r = if a 0 13 = 0 then 0 else a 0 21 - a 0 20) := by
  intro p e R s m args below meth c Q ls X hW hS hR hl hret
  have hx := X.1.1
  have hb := X.1.2.1
  have hml := X.1.2.2.1
  have hown := X.1.2.2.2.1
  have hts := X.1.2.2.2.2
  have hK := X.2.1
  have hl : lv_has ls 1 [(0, .ref (ad 0))] := hl
  refine lv_aload_n hx hb d_PG_waiting_0 rfl (lv_at hl 0 rfl) ?_
  refine gf_PG_34 (z := a 0 13) X hW  (gv_0_0_13 _) rfl rfl d_PG_waiting_1 ?_
  refine lv_if_eq (tgt := 17) hx hb d_PG_waiting_4 (by decide) (fun h4 => ?_) (fun h4 => ?_)
  · -- 4 t
    refine lv_iconst (v := 0) hx hb d_PG_waiting_17 (by decide) ?_
    refine hret 0 ((a, x, o), v) _ _ _ _ ?_ hW hS d_PG_waiting_18
    first | exact ⟨rfl, by rw [if_pos h4]⟩ | exact ⟨rfl, by rw [if_neg h4]⟩
  · -- 4 f
    refine lv_aload_n hx hb d_PG_waiting_7 rfl (lv_at hl 0 rfl) ?_
    refine gf_PG_21 X hW  d_PG_waiting_8 ?_
    refine gc_iV (As := []) (b := ad 24) (rest := []) X cw_PG_114 (C_Gat_entriesLeft l (a := a) (x := x) (o := o) (v := v)) hW hS (gW_recv (ci := 5) (fs := gf5 ad) hK hW (by omega) (fun σ τ => ge_5 rfl σ τ) (r := (R_Gat, F_Gat, 17)) rfl) ⟨Nat.le_trans (Nat.le_of_ble_eq_true rfl) hR.1, Nat.le_trans (Nat.le_of_ble_eq_true rfl) hR.2⟩ rfl hl.1 rfl (Nat.le_of_ble_eq_true rfl) d_PG_waiting_11 ⟨Nat.zero_le _, Nat.zero_le _⟩ (fun r t H locs hp hW hS => ?_)
    obtain ⟨rfl, rfl⟩ := hp
    have hW : gW g A ad np (a, x, o) v H := hW
    refine lv_goto (tgt := 18) hx hb d_PG_waiting_14 (by decide) ?_
    refine hret (a 0 21 - a 0 20) ((a, x, o), v) _ _ _ _ ?_ hW hS d_PG_waiting_18
    first | exact ⟨rfl, by rw [if_pos h4]⟩ | exact ⟨rfl, by rw [if_neg h4]⟩
theorem C_PG_waiting (l : Launch) {g : gG} {A : Nat → Prop} {ad : Nat → Nat} {np : Nat} {a x : gA} {o : gL} {v : gS}  : CtI l y_PG_waiting b_PG_waiting 1 .int 1 [.ref (ad 0)] g A ad np (a, x, o) v (fun r t => t = ((a, x, o), v) ∧ r = if a 0 13 = 0 then 0 else a 0 21 - a 0 20) := mkI (by decide) rfl (Nat.le_of_ble_eq_true rfl) (fun _ _ _ => rfl) (B_PG_waiting l )

set_option maxHeartbeats 400000 in
set_option maxRecDepth 20000 in
theorem B_PG_corpusAt (l : Launch) {g : gG} {A : Nat → Prop} {ad : Nat → Nat} {np : Nat} {a x : gA} {o : gL} {v : gS} {w1 : Int32} (hnp : np ≤ 32) (hg : WFg np a) : BdI l b_PG_corpusAt 2 R_PG 1 [.ref (ad 0), .int w1] g A ad np (a, x, o) v (fun r t => t = ((a, x, o), v) ∧ r = rAt a w1) := by
  intro p e R s m args below meth c Q ls X hW hS hR hl hret
  have hx := X.1.1
  have hb := X.1.2.1
  have hml := X.1.2.2.1
  have hown := X.1.2.2.2.1
  have hts := X.1.2.2.2.2
  have hK := X.2.1
  have hl : lv_has ls 2 [(0, .ref (ad 0)), (1, .int w1)] := hl
  obtain ⟨hd, nq, nf, ng, mh, mq, mf, mg, hp0, -, -, -, e25, -, -, -, -, -, -, -, -, -, -, -, -, -, -, -, d15⟩ := hg
  have hng := dst_le d15 hnp
  refine lv_aload_n hx hb d_PG_corpusAt_0 rfl (lv_at hl 0 rfl) ?_
  refine gf_PG_34 (z := a 0 13) X hW  (gv_0_0_13 _) rfl rfl d_PG_corpusAt_1 ?_
  refine lv_if_eq (tgt := 21) hx hb d_PG_corpusAt_4 (by decide) (fun h4 => ?_) (fun h4 => ?_)
  · -- 4 t
    refine lv_iconst (v := (-1)) hx hb d_PG_corpusAt_21 (by decide) ?_
    refine hret (-1) ((a, x, o), v) _ _ _ _ ?_ hW hS d_PG_corpusAt_22
    unfold rAt
    first | exact ⟨rfl, by rw [if_pos h4]⟩ | exact ⟨rfl, by rw [if_neg h4]⟩
  · -- 4 f
    refine lv_aload_n hx hb d_PG_corpusAt_7 rfl (lv_at hl 0 rfl) ?_
    refine gf_PG_21 X hW  d_PG_corpusAt_8 ?_
    refine gf_PG_134 X hW  d_PG_corpusAt_11 ?_
    refine lv_iload_n hx hb d_PG_corpusAt_14 rfl (lv_at hl 1 rfl) ?_
    refine gc_iV (As := [.int w1]) (b := ad 31) (rest := []) X cw_PG_137 (C_Row_at l (u := (a, x, o)) (v := v) (x := w1) (n := ng) (f := a 15) (gRow_31 np) e25 (by omega) (fun i _ => rfl)) hW hS (gW_recv (ci := 3) (fs := gf3 ad 31) hK hW (by omega) (fun σ τ => ge_3 rfl σ τ) (r := (R_Row, F_Row, 2)) rfl) ⟨Nat.le_trans (Nat.le_of_ble_eq_true rfl) hR.1, Nat.le_trans (Nat.le_of_ble_eq_true rfl) hR.2⟩ rfl hl.1 rfl (Nat.le_of_ble_eq_true rfl) d_PG_corpusAt_15 ⟨Nat.zero_le _, Nat.zero_le _⟩ (fun r t H locs hp hW hS => ?_)
    obtain ⟨rfl, hr9⟩ := hp
    rw [← e25] at hr9
    subst hr9
    have hW : gW g A ad np (a, x, o) v H := hW
    refine lv_goto (tgt := 22) hx hb d_PG_corpusAt_18 (by decide) ?_
    refine hret (if 0 ≤ w1 ∧ w1 < a 0 25 then a 15 w1.toNatClampNeg else -1) ((a, x, o), v) _ _ _ _ ?_ hW hS d_PG_corpusAt_22
    unfold rAt
    first | exact ⟨rfl, by rw [if_pos h4]⟩ | exact ⟨rfl, by rw [if_neg h4]⟩
theorem C_PG_corpusAt (l : Launch) {g : gG} {A : Nat → Prop} {ad : Nat → Nat} {np : Nat} {a x : gA} {o : gL} {v : gS} {w1 : Int32} (hnp : np ≤ 32) (hg : WFg np a) : CtI l y_PG_corpusAt b_PG_corpusAt 2 .int 1 [.ref (ad 0), .int w1] g A ad np (a, x, o) v (fun r t => t = ((a, x, o), v) ∧ r = rAt a w1) := mkI (by decide) rfl (Nat.le_of_ble_eq_true rfl) (fun _ _ _ => rfl) (B_PG_corpusAt l hnp hg)
end
